/** What the tests share: compares answers, counts the wrong ones, and ends the run. */
final class Check {
    interface Call {
        Object answer();
    }

    private static int wrong = 0;
    private static int looked = 0;

    private Check() {
    }

    static void is(String what, Object got, Object due) {
        looked++;
        if (!due.equals(got)) {
            wrong++;
            System.out.println(what + " answered " + got + ", due is " + due);
        }
    }

    static void is(String what, long got, long due) {
        is(what, Long.valueOf(got), Long.valueOf(due));
    }

    /** The answer of a call as a text: what it returns, or which exception it throws. */
    static String answerOf(Call call) {
        try {
            return String.valueOf(call.answer());
        } catch (RuntimeException e) {
            return "throws." + e.getClass().getSimpleName();
        }
    }

    /** The call must throw exactly this, and leave the tower as it was. */
    static void refused(String what, BellfounderTower tower, Class<?> exception, Call call) {
        long before = tower.digest();
        is(what, answerOf(call), "throws." + exception.getSimpleName());
        is(what + ", and the digest behind it", tower.digest(), before);
    }

    static void end(String name) {
        System.out.println(name + ": " + looked + " answers looked at, " + wrong + " wrong");
        if (wrong != 0 || looked == 0) {
            System.exit(1);
        }
    }
}
