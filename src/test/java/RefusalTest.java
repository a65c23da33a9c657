import java.util.ArrayList;
import java.util.List;
import java.util.function.Supplier;

/**
 * "A method that throws an exception changes nothing. If several exceptions apply, the one that is
 * named first is thrown.": a test of its own for each way to be refused, on towers from empty to full.
 */
public final class RefusalTest {
    private static final String ILLEGAL = "throws.IllegalArgumentException";
    private static final String STATE = "throws.IllegalStateException";
    private static final String INDEX = "throws.IndexOutOfBoundsException";

    /** Which towers a refusal is for. */
    private enum On { EMPTY, SILENT, MUTE, SOME, FULL }

    private interface Ask {
        Object of(BellfounderTower tower);
    }

    public static void main(String[] args) {
        refusedByAll();
        refusedByEmptyOnes();
        refusedByFullOnes();
        theFirstNamed();
        Check.end("RefusalTest");
    }

    // ---- towers

    private static BellfounderTower made(On on) {
        BellfounderTower tower = new BellfounderTower();
        switch (on) {
            case EMPTY -> { }
            case SILENT -> lay(tower, 3);
            case MUTE -> change(tower, 5);
            case SOME -> {
                change(tower, 3);
                lay(tower, 4);
            }
            default -> {
                change(tower, 14);
                lay(tower, 24);
            }
        }
        return tower;
    }

    private static void change(BellfounderTower tower, int changes) {
        for (int k = 0; k < changes; k++) {
            tower.change(k % 2 == 0 ? 1 : 16);
        }
        tower.at(1, 25);
        tower.at(2, 4);
    }

    private static void lay(BellfounderTower tower, int calls) {
        for (int k = 0; k < calls; k++) {
            tower.call(k % 3);
        }
    }

    // ---- "A method that throws an exception changes nothing"

    private static void refused(String call, String due, Ask ask, On... towers) {
        for (On on : towers) {
            Check.sentence("A method that throws changes nothing: " + call + " of the tower " + on, () -> {
                BellfounderTower tower = made(on);
                Check.is("the call", Check.answerOf(() -> ask.of(tower)), due);
                same(() -> made(on), tower);
            });
        }
    }

    /** The tower must answer like one that was made alike, and go on like it. */
    private static void same(Supplier<BellfounderTower> alike, BellfounderTower tower) {
        BellfounderTower twin = alike.get();
        Check.is("what is told", answers(tower), answers(twin));
        Check.is("what comes of going on", goneOn(tower), goneOn(twin));
        Check.is("what is told then", answers(tower), answers(twin));
    }

    private static String answers(BellfounderTower tower) {
        List<Object> answers = new ArrayList<>();
        for (int what = 0; what <= 5; what++) {
            answers.add(tower.told(what));
        }
        for (int k = 0; k < 14; k++) {
            int place = k;
            answers.add(Check.answerOf(() -> tower.changeAt(place)));
        }
        for (int k = 0; k < 24; k++) {
            int place = k;
            answers.add(Check.answerOf(() -> tower.callAt(place)));
        }
        for (int what = 0; what <= 7; what++) {
            answers.add(tower.touch(what));
        }
        for (int k = 0; k <= 13; k++) {
            int number = k * k * 2 - 1;
            answers.add(Check.answerOf(() -> tower.row(number)));
        }
        int[] rows = {12345, 13254, 31524, 35142, 54321, 21435};
        for (int row : rows) {
            answers.add(tower.where(row));
        }
        for (int bell = 1; bell <= 5; bell++) {
            answers.add(tower.longest(bell));
        }
        for (int call = 0; call <= 2; call++) {
            answers.add(tower.lead(12345, call));
            answers.add(tower.clashes(call));
        }
        for (int k = 0; k <= 5; k++) {
            answers.add(tower.good(k));
            answers.add(tower.best(k));
        }
        answers.add(tower.meanPlace());
        answers.add(tower.digest());
        return answers.toString();
    }

    private static String goneOn(BellfounderTower tower) {
        List<Object> answers = new ArrayList<>();
        answers.add(Check.answerOf(tower::uncall));
        answers.add(Check.answerOf(() -> tower.call(2)));
        answers.add(Check.answerOf(() -> tower.change(19)));
        answers.add(Check.answerOf(tower::unchange));
        answers.add(Check.answerOf(tower::mirror));
        answers.add(Check.answerOf(() -> tower.change(28)));
        answers.add(Check.answerOf(() -> tower.call(0)));
        answers.add(Check.answerOf(() -> tower.at(1, 31)));
        return answers.toString();
    }

    private static void refusedByAll() {
        illegal("begin(3)", t -> t.begin(3));
        illegal("begin(8)", t -> t.begin(8));
        illegal("change(2)", t -> t.change(2));
        illegal("change(0)", t -> t.change(0));
        illegal("change(32)", t -> t.change(32));
        illegal("change(-1)", t -> t.change(-1));
        illegal("at(0, 1)", t -> t.at(0, 1));
        illegal("at(3, 1)", t -> t.at(3, 1));
        illegal("at(1, 2)", t -> t.at(1, 2));
        illegal("at(2, 32)", t -> t.at(2, 32));
        illegal("told(-1)", t -> t.told(-1));
        illegal("told(6)", t -> t.told(6));
        index("changeAt(-1)", t -> t.changeAt(-1));
        index("changeAt(14)", t -> t.changeAt(14));
        illegal("next(12344, 1)", t -> t.next(12344, 1));
        illegal("next(12345, 2)", t -> t.next(12345, 2));
        illegal("lead(12346, 0)", t -> t.lead(12346, 0));
        illegal("lead(12345, 3)", t -> t.lead(12345, 3));
        illegal("lead(12345, -1)", t -> t.lead(12345, -1));
        illegal("crossed(1234)", t -> t.crossed(1234));
        illegal("call(3)", t -> t.call(3));
        illegal("call(-1)", t -> t.call(-1));
        index("callAt(-1)", t -> t.callAt(-1));
        index("callAt(24)", t -> t.callAt(24));
        illegal("touch(-1)", t -> t.touch(-1));
        illegal("touch(8)", t -> t.touch(8));
        index("row(-1)", t -> t.row(-1));
        index("row(336)", t -> t.row(336));
        illegal("where(123456)", t -> t.where(123456));
        index("place(0, 0)", t -> t.place(0, 0));
        index("place(6, 0)", t -> t.place(6, 0));
        index("place(1, -1)", t -> t.place(1, -1));
        index("place(1, 336)", t -> t.place(1, 336));
        index("longest(0)", t -> t.longest(0));
        index("longest(6)", t -> t.longest(6));
        illegal("music(0)", t -> t.music(0));
        index("common(-1, 0)", t -> t.common(-1, 0));
        index("common(0, 24)", t -> t.common(0, 24));
        illegal("good(-1)", t -> t.good(-1));
        illegal("good(6)", t -> t.good(6));
        illegal("best(-1)", t -> t.best(-1));
        illegal("best(6)", t -> t.best(6));
        illegal("bestCall(-1, 0)", t -> t.bestCall(-1, 0));
        illegal("bestCall(6, 0)", t -> t.bestCall(6, 0));
        index("bestCall(0, 0)", t -> t.bestCall(0, 0));
        index("bestCall(5, -1)", t -> t.bestCall(5, -1));
        index("bestCall(5, 5)", t -> t.bestCall(5, 5));
        index("endWith(-1, 0)", t -> t.endWith(-1, 0));
        index("endWith(24, 0)", t -> t.endWith(24, 0));
        illegal("clashes(-1)", t -> t.clashes(-1));
        illegal("clashes(3)", t -> t.clashes(3));
    }

    private static void illegal(String call, Ask ask) {
        refused(call, ILLEGAL, ask, On.values());
    }

    private static void index(String call, Ask ask) {
        refused(call, INDEX, ask, On.values());
    }

    private static void refusedByEmptyOnes() {
        refused("mirror()", STATE, t -> t.mirror(), On.EMPTY, On.SILENT);
        refused("unchange()", STATE, t -> t.unchange(), On.EMPTY, On.SILENT);
        refused("uncall()", STATE, t -> t.uncall(), On.EMPTY, On.MUTE);
        refused("changeAt(0)", INDEX, t -> t.changeAt(0), On.EMPTY, On.SILENT);
        refused("callAt(0)", INDEX, t -> t.callAt(0), On.EMPTY, On.MUTE);
        refused("row(0)", INDEX, t -> t.row(0), On.EMPTY, On.SILENT, On.MUTE);
        refused("place(1, 0)", INDEX, t -> t.place(1, 0), On.EMPTY, On.SILENT, On.MUTE);
        refused("common(0, 0)", INDEX, t -> t.common(0, 0), On.EMPTY, On.MUTE);
        refused("endWith(0, 0)", INDEX, t -> t.endWith(0, 0), On.EMPTY, On.MUTE);
        refused("bestCall(5, 0)", INDEX, t -> t.bestCall(5, 0), On.EMPTY, On.SILENT);
    }

    private static void refusedByFullOnes() {
        refused("change(1)", STATE, t -> t.change(1), On.FULL);
        refused("mirror()", STATE, t -> t.mirror(), On.FULL);
        refused("call(0)", STATE, t -> t.call(0), On.FULL);
        refused("endWith(0, 3)", ILLEGAL, t -> t.endWith(0, 3), On.SILENT, On.SOME, On.FULL);
    }

    // ---- "If several exceptions apply, the one that is named first is thrown"

    private static void first(String call, String due, Ask ask, On... towers) {
        refused(call + ", the exception that is named first", due, ask, towers);
    }

    private static void theFirstNamed() {
        first("change(2) with 14", ILLEGAL, t -> t.change(2), On.FULL);
        first("change(-1) with 14", ILLEGAL, t -> t.change(-1), On.FULL);
        first("call(3) with 24", ILLEGAL, t -> t.call(3), On.FULL);
        first("call(-1) with 24", ILLEGAL, t -> t.call(-1), On.FULL);
        first("bestCall(6, -1)", ILLEGAL, t -> t.bestCall(6, -1), On.values());
        first("bestCall(-1, 5)", ILLEGAL, t -> t.bestCall(-1, 5), On.values());
        first("endWith(24, 3)", INDEX, t -> t.endWith(24, 3), On.values());
        first("endWith(-1, -1)", INDEX, t -> t.endWith(-1, -1), On.values());
        first("endWith(0, 3) without calls", INDEX, t -> t.endWith(0, 3), On.EMPTY, On.MUTE);
    }
}
