import java.util.function.IntUnaryOperator;

/** What the tests share: compares answers, counts the wrong ones, and ends the run. */
final class Check {
    interface Call {
        Object answer();
    }

    private static int wrong = 0;
    private static int looked = 0;
    private static int sentences = 0;
    /** The sentence of the document that is looked at, told ahead of each wrong answer. */
    private static String sentence = "";

    private Check() {
    }

    /** A sentence of the document has a test of its own, which must look at something. */
    static void sentence(String words, Runnable test) {
        int lookedBefore = looked;
        sentences++;
        sentence = "\"" + words + "\": ";
        try {
            test.run();
        } catch (RuntimeException e) {
            isWrong("its test threw " + e);
        }
        if (looked == lookedBefore) {
            isWrong("its test looked at nothing");
        }
        sentence = "";
    }

    private static void isWrong(String what) {
        wrong++;
        System.out.println(sentence + what);
    }

    static void is(String what, Object got, Object due) {
        looked++;
        if (!due.equals(got)) {
            isWrong(what + " answered " + got + ", due is " + due);
        }
    }

    static void is(String what, long got, long due) {
        is(what, Long.valueOf(got), Long.valueOf(due));
    }

    /** Asks for 0, 1 and so on, as far as answers are due. */
    static void each(String what, IntUnaryOperator asked, int... due) {
        for (int k = 0; k < due.length; k++) {
            is(what + "(" + k + ")", asked.applyAsInt(k), due[k]);
        }
    }

    /** The answer of a call as a text: what it returns, or which exception it throws. */
    static String answerOf(Call call) {
        try {
            return String.valueOf(call.answer());
        } catch (RuntimeException e) {
            return "throws." + e.getClass().getSimpleName();
        }
    }

    /** The call must throw exactly this, and leave the tower as it was. */
    static void refused(String what, BellfounderTower tower, Class<?> exception, Call call) {
        long before = tower.digest();
        is(what, answerOf(call), "throws." + exception.getSimpleName());
        is(what + ", and the digest behind it", tower.digest(), before);
    }

    static void illegal(String what, BellfounderTower tower, Call call) {
        refused(what, tower, IllegalArgumentException.class, call);
    }

    static void state(String what, BellfounderTower tower, Call call) {
        refused(what, tower, IllegalStateException.class, call);
    }

    static void index(String what, BellfounderTower tower, Call call) {
        refused(what, tower, IndexOutOfBoundsException.class, call);
    }

    static void end(String name) {
        String tested = sentences == 0 ? "" : sentences + " sentences, ";
        System.out.println(name + ": " + tested + looked + " answers looked at, " + wrong + " wrong");
        if (wrong != 0 || looked == 0) {
            System.exit(1);
        }
    }
}
