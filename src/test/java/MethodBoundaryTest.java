/** Promises 1 to 12: each sentence that names a boundary case has a test of its own. */
public final class MethodBoundaryTest {

    public static void main(String[] args) {
        beginning();
        changing();
        asking();
        ringing();
        Check.end("MethodBoundaryTest");
    }

    private static void beginning() {
        Check.sentence("1: a tower with 5 BELLS, without CHANGES and CALLS", MethodBoundaryTest::newTower);
        Check.sentence("2: the METHOD and the CALLS are empty", MethodBoundaryTest::beginEmpties);
        Check.sentence("2: BOB and SINGLE as at first", MethodBoundaryTest::beginSetsBobAndSingle);
        Check.sentence("2: Returns ROUNDS", MethodBoundaryTest::beginReturnsRounds);
        Check.sentence("2: Throws IllegalArgumentException if n is not 4 to 7", MethodBoundaryTest::beginRefuses);
    }

    private static void changing() {
        Check.sentence("3: Adds a CHANGE at the end; returns how many it has then",
                MethodBoundaryTest::changeAddsAtTheEnd);
        Check.sentence("3: Throws IllegalArgumentException if it is no CHANGE",
                MethodBoundaryTest::changeRefusesNoChange);
        Check.sentence("3: Throws IllegalStateException if it has 14", MethodBoundaryTest::changeRefusesAFifteenth);
        Check.sentence("4: all CHANGES but the last one once more, from the last but one back to the first one",
                MethodBoundaryTest::mirrorOfOneToSeven);
        Check.sentence("4: Throws IllegalStateException if it has none", MethodBoundaryTest::mirrorRefusesNone);
        Check.sentence("4: Throws IllegalStateException if there would be more than 14",
                MethodBoundaryTest::mirrorRefusesMoreThanFourteen);
        Check.sentence("5: Takes the last CHANGE away; returns the CHANGE", MethodBoundaryTest::unchangeToTheLast);
        Check.sentence("5: Throws IllegalStateException if it has none", MethodBoundaryTest::unchangeRefusesNone);
        Check.sentence("6: 1 for the BOB, 2 for the SINGLE; returns the one before",
                MethodBoundaryTest::atReturnsTheOneBefore);
        Check.sentence("6: Throws IllegalArgumentException if call is neither",
                MethodBoundaryTest::atRefusesOtherCalls);
        Check.sentence("6: Throws IllegalArgumentException if it is no CHANGE", MethodBoundaryTest::atRefusesNoChange);
    }

    private static void asking() {
        Check.sentence("7: false for what is no such set", MethodBoundaryTest::isChangeOfNoSet);
        Check.sentence("8: 0 n .. 4 how many CALLS there are", MethodBoundaryTest::toldOfEmptyAndFull);
        Check.sentence("8: 5 how many BELLS are hunt bells .. with each of the three CALLS",
                MethodBoundaryTest::huntBellsWithEachCall);
        Check.sentence("8: all n without CHANGES", MethodBoundaryTest::allHuntWithoutChanges);
        Check.sentence("8: Throws IllegalArgumentException if what is not 0 to 5", MethodBoundaryTest::toldRefuses);
        Check.sentence("9: a place in the METHOD, from 0", MethodBoundaryTest::changeAtFirstAndLast);
        Check.sentence("9: Throws IndexOutOfBoundsException if there is no such place",
                MethodBoundaryTest::changeAtRefuses);
    }

    private static void ringing() {
        Check.sentence("10: Returns the ROW behind that", MethodBoundaryTest::nextOfFirstAndLastRow);
        Check.sentence("10: Throws IllegalArgumentException if it is no ROW", MethodBoundaryTest::nextRefusesNoRow);
        Check.sentence("10: Throws IllegalArgumentException if it is .. no CHANGE",
                MethodBoundaryTest::nextRefusesNoChange);
        Check.sentence("11: Returns the last ROW of a LEAD from that on", MethodBoundaryTest::leadOfOneAndFourteen);
        Check.sentence("11: itself without CHANGES", MethodBoundaryTest::leadWithoutChanges);
        Check.sentence("11: Throws IllegalArgumentException if it is no ROW", MethodBoundaryTest::leadRefusesNoRow);
        Check.sentence("11: Throws IllegalArgumentException if call is not 0 to 2",
                MethodBoundaryTest::leadRefusesOtherCalls);
        Check.sentence("12: how many pairs of BELLS are the other way round", MethodBoundaryTest::crossedNoneToAll);
        Check.sentence("12: Throws IllegalArgumentException if it is no ROW", MethodBoundaryTest::crossedRefusesNoRow);
    }

    // ---- towers

    /** Five bells, the changes 1 and 16 in turn. */
    private static BellfounderTower hunt(int changes) {
        BellfounderTower tower = new BellfounderTower();
        for (int k = 0; k < changes; k++) {
            tower.change(k % 2 == 0 ? 1 : 16);
        }
        return tower;
    }

    /** 14 changes and 24 calls. */
    private static BellfounderTower full() {
        BellfounderTower tower = hunt(14);
        tower.at(1, 4);
        tower.at(2, 25);
        for (int k = 0; k < 24; k++) {
            tower.call(k % 3);
        }
        return tower;
    }

    private static void changes(String where, BellfounderTower tower, int... due) {
        Check.is(where + ": how many", tower.told(1), due.length);
        for (int k = 0; k < due.length; k++) {
            Check.is(where + ": changeAt(" + k + ")", tower.changeAt(k), due[k]);
        }
    }

    // ---- promises 1 and 2

    private static void newTower() {
        BellfounderTower tower = new BellfounderTower();
        Check.each("new: told", tower::told, 5, 0, 31, 31, 0, 5);
        Check.is("rows", tower.touch(0), 0);
        Check.is("end", tower.touch(1), 12345);
        Check.index("changeAt(0)", tower, () -> tower.changeAt(0));
        Check.index("callAt(0)", tower, () -> tower.callAt(0));
        Check.index("row(0)", tower, () -> tower.row(0));
    }

    private static void beginEmpties() {
        for (int n = 4; n <= 7; n++) {
            BellfounderTower tower = full();
            tower.begin(n);
            Check.is("n", tower.told(0), n);
            Check.is("changes", tower.told(1), 0);
            Check.is("calls", tower.told(4), 0);
            Check.is("rows", tower.touch(0), 0);
            Check.is("different rows", tower.touch(7), 0);
            Check.is("where(rounds)", tower.where(Edges.ROUNDS[n - 4]), -1);
            Check.state("uncall()", tower, tower::uncall);
            Check.state("unchange()", tower, tower::unchange);
            Check.is("change of all", tower.change((1 << n) - 1), 1);
            Check.is("rows with that", tower.touch(0), 0);
            Check.is("call(0)", tower.call(0), Edges.ROUNDS[n - 4]);
            Check.is("true with one row", tower.touch(3), 1);
            Check.is("calls with that", tower.told(4), 1);
        }
    }

    private static void beginSetsBobAndSingle() {
        for (int n = 4; n <= 7; n++) {
            int all = (1 << n) - 1;
            BellfounderTower tower = full();
            tower.begin(n);
            Check.is("at(1, all) of " + n, tower.at(1, all), all);
            Check.is("at(2, all) of " + n, tower.at(2, all), all);
        }
        BellfounderTower same = new BellfounderTower();
        same.at(1, 1);
        same.at(2, 16);
        same.begin(5);
        Check.each("begin with as many bells: told", same::told, 5, 0, 31, 31, 0, 5);
    }

    private static void beginReturnsRounds() {
        BellfounderTower tower = full();
        for (int n : new int[] {4, 7, 5, 6, 6, 4}) {
            Check.is("begin(" + n + ")", tower.begin(n), Edges.ROUNDS[n - 4]);
        }
    }

    private static void beginRefuses() {
        for (BellfounderTower tower : new BellfounderTower[] {new BellfounderTower(), full()}) {
            for (int n : new int[] {3, 8, 2, 9, 1, 0, -1, -4, -5, -7, Edges.LOWEST, Edges.HIGHEST}) {
                Check.illegal("begin(" + n + ")", tower, () -> tower.begin(n));
            }
        }
    }

    // ---- promises 3 to 6

    private static void changeAddsAtTheEnd() {
        BellfounderTower tower = new BellfounderTower();
        int[] due = {1, 31, 16, 4, 7, 19, 25, 28, 1, 1, 16, 31, 4, 28};
        for (int k = 0; k < 14; k++) {
            Check.is("change number " + (k + 1), tower.change(due[k]), k + 1);
        }
        changes("14 changes", tower, due);
    }

    private static void changeRefusesNoChange() {
        for (int changes : new int[] {0, 13}) {
            BellfounderTower tower = hunt(changes);
            for (int set : Edges.NO_CHANGES_OF_FIVE) {
                Check.illegal("change(" + set + ")", tower, () -> tower.change(set));
            }
            Check.is("change(31)", tower.change(31), changes + 1);
        }
    }

    private static void changeRefusesAFifteenth() {
        BellfounderTower tower = hunt(13);
        Check.is("the fourteenth", tower.change(16), 14);
        for (int set : new int[] {1, 16, 31}) {
            Check.state("change(" + set + ") as the fifteenth", tower, () -> tower.change(set));
        }
        Check.is("the fourteenth still", tower.changeAt(13), 16);
        tower.unchange();
        Check.is("there is room for one again", tower.change(31), 14);
    }

    private static void mirrorOfOneToSeven() {
        int[] wanted = {1, 16, 4, 7, 19, 25, 28};
        for (int length = 1; length <= 7; length++) {
            BellfounderTower tower = new BellfounderTower();
            int[] due = new int[2 * length - 1];
            for (int k = 0; k < length; k++) {
                tower.change(wanted[k]);
                due[k] = wanted[k];
                due[due.length - 1 - k] = wanted[k];
            }
            Check.is("mirror() of " + length, tower.mirror(), 2 * length - 1);
            changes("mirror() of " + length, tower, due);
        }
    }

    private static void mirrorRefusesNone() {
        BellfounderTower tower = new BellfounderTower();
        Check.state("mirror() of a new tower", tower, tower::mirror);
        tower.change(1);
        tower.unchange();
        tower.call(0);
        Check.state("mirror() with the change taken away", tower, tower::mirror);
        BellfounderTower begun = full();
        begun.begin(7);
        Check.state("mirror() behind begin()", begun, begun::mirror);
    }

    private static void mirrorRefusesMoreThanFourteen() {
        Check.is("mirror() of seven, to 13", hunt(7).mirror(), 13);
        for (int length = 8; length <= 14; length++) {
            BellfounderTower tower = hunt(length);
            Check.state("mirror() of " + length, tower, tower::mirror);
            Check.is("changes still", tower.told(1), length);
        }
    }

    private static void unchangeToTheLast() {
        BellfounderTower tower = full();
        for (int k = 13; k >= 0; k--) {
            Check.is("unchange() of number " + (k + 1), tower.unchange(), k % 2 == 0 ? 1 : 16);
            Check.is("changes left", tower.told(1), k);
            Check.is("rows left", tower.touch(0), 24 * k);
        }
    }

    private static void unchangeRefusesNone() {
        BellfounderTower tower = new BellfounderTower();
        Check.state("unchange() of a new tower", tower, tower::unchange);
        tower.change(4);
        Check.is("unchange() of the only one", tower.unchange(), 4);
        tower.call(1);
        Check.state("unchange() behind that", tower, tower::unchange);
    }

    private static void atReturnsTheOneBefore() {
        BellfounderTower tower = new BellfounderTower();
        Check.is("the first bob", tower.at(1, 1), 31);
        Check.is("the first single", tower.at(2, 16), 31);
        Check.is("the same bob again", tower.at(1, 1), 1);
        Check.is("the same bob before", tower.at(1, 25), 1);
        Check.is("the same single before", tower.at(2, 31), 16);
        Check.each("both: told", tower::told, 5, 0, 25, 31);
    }

    private static void atRefusesOtherCalls() {
        BellfounderTower tower = full();
        for (int call : new int[] {0, 3, -1, -2, 4, Edges.LOWEST, Edges.HIGHEST}) {
            Check.illegal("at(" + call + ", 1)", tower, () -> tower.at(call, 1));
            Check.illegal("at(" + call + ", 0)", tower, () -> tower.at(call, 0));
        }
    }

    private static void atRefusesNoChange() {
        BellfounderTower tower = full();
        for (int set : Edges.NO_CHANGES_OF_FIVE) {
            Check.illegal("at(1, " + set + ")", tower, () -> tower.at(1, set));
            Check.illegal("at(2, " + set + ")", tower, () -> tower.at(2, set));
        }
        Check.is("a bob with 14 changes", tower.at(1, 31), 4);
        Check.is("a single with 14 changes", tower.at(2, 31), 25);
    }

    // ---- promises 7 to 9

    private static void isChangeOfNoSet() {
        for (int n = 4; n <= 7; n++) {
            BellfounderTower tower = new BellfounderTower();
            tower.begin(n);
            int beyond = 1 << n;
            Check.is("the greatest set of " + n, tower.isChange(beyond - 1), true);
            for (int set : new int[] {beyond, beyond + 1, 2 * beyond - 1, -1, -beyond, Edges.LOWEST + beyond - 1}) {
                Check.is("isChange(" + set + ") of " + n, tower.isChange(set), false);
            }
            Check.is("isChange(lowest)", tower.isChange(Edges.LOWEST), false);
            Check.is("isChange(highest)", tower.isChange(Edges.HIGHEST), false);
        }
    }

    private static void toldOfEmptyAndFull() {
        for (int n = 4; n <= 7; n++) {
            BellfounderTower empty = new BellfounderTower();
            empty.begin(n);
            Check.each("empty: told", empty::told, n, 0, (1 << n) - 1, (1 << n) - 1, 0, n);
        }
        Check.each("full: told", full()::told, 5, 14, 4, 25, 24);
    }

    private static void huntBellsWithEachCall() {
        BellfounderTower tower = new BellfounderTower();
        tower.change(31);
        Check.is("all are, with calls of all places", tower.told(5), 5);
        tower.at(1, 19);
        Check.is("the bob moves 3 and 4", tower.told(5), 3);
        tower.at(2, 28);
        Check.is("and the single 1 and 2", tower.told(5), 1);
        tower.at(1, 31);
        Check.is("the single alone moves bells", tower.told(5), 3);
        tower.change(25);
        Check.is("and the plain lead", tower.told(5), 2);
        BellfounderTower none = new BellfounderTower();
        none.begin(4);
        none.change(0);
        Check.is("none is", none.told(5), 0);
    }

    private static void allHuntWithoutChanges() {
        for (int n = 4; n <= 7; n++) {
            BellfounderTower tower = new BellfounderTower();
            tower.begin(n);
            tower.at(1, n % 2 == 0 ? 0 : 1);
            tower.call(1);
            Check.is("hunt bells of " + n, tower.told(5), n);
        }
    }

    private static void toldRefuses() {
        for (BellfounderTower tower : new BellfounderTower[] {new BellfounderTower(), full()}) {
            for (int what : new int[] {-1, 6, 7, -5, Edges.LOWEST, Edges.HIGHEST}) {
                Check.illegal("told(" + what + ")", tower, () -> tower.told(what));
            }
        }
    }

    private static void changeAtFirstAndLast() {
        BellfounderTower tower = new BellfounderTower();
        tower.change(4);
        Check.is("changeAt(0) of one", tower.changeAt(0), 4);
        for (int k = 1; k < 13; k++) {
            tower.change(16);
        }
        tower.change(7);
        Check.is("changeAt(0) of 14", tower.changeAt(0), 4);
        Check.is("changeAt(13) of 14", tower.changeAt(13), 7);
    }

    private static void changeAtRefuses() {
        for (int changes : new int[] {0, 1, 13, 14}) {
            BellfounderTower tower = hunt(changes);
            for (int k : Edges.noPlaceOf(changes)) {
                Check.index("changeAt(" + k + ") of " + changes, tower, () -> tower.changeAt(k));
            }
        }
        BellfounderTower shorter = hunt(14);
        shorter.unchange();
        Check.index("the one taken away", shorter, () -> shorter.changeAt(13));
        shorter.begin(5);
        Check.index("behind begin()", shorter, () -> shorter.changeAt(0));
    }

    // ---- promises 10 to 12

    private static void nextOfFirstAndLastRow() {
        int[] first = {2134, 21345, 213456, 2134567};
        int[] last = {4312, 54312, 654312, 7654312};
        for (int n = 4; n <= 7; n++) {
            BellfounderTower tower = new BellfounderTower();
            tower.begin(n);
            int all = (1 << n) - 1;
            Check.is("the first two of rounds", tower.next(Edges.ROUNDS[n - 4], all - 3), first[n - 4]);
            int allButTheLastTwo = (1 << (n - 2)) - 1;
            Check.is("the last two backwards", tower.next(Edges.BACKWARDS[n - 4], allButTheLastTwo), last[n - 4]);
        }
    }

    private static void nextRefusesNoRow() {
        BellfounderTower tower = full();
        for (int row : Edges.NO_ROWS_OF_FIVE) {
            Check.illegal("next(" + row + ", 1)", tower, () -> tower.next(row, 1));
        }
    }

    private static void nextRefusesNoChange() {
        BellfounderTower tower = full();
        for (int set : Edges.NO_CHANGES_OF_FIVE) {
            Check.illegal("next(12345, " + set + ")", tower, () -> tower.next(12345, set));
        }
    }

    private static void leadOfOneAndFourteen() {
        BellfounderTower one = hunt(1);
        Check.is("plain, of one change", one.lead(54321, 0), 53412);
        Check.is("with a bob, of one change", one.lead(54321, 1), 54321);
        BellfounderTower fourteen = full();
        Check.is("plain, of 14 changes", fourteen.lead(12345, 0), 53412);
        Check.is("with a bob of 3, of 14 changes", fourteen.lead(12345, 1), 53124);
        Check.is("with a single of 145, of 14 changes", fourteen.lead(12345, 2), 31542);
    }

    private static void leadWithoutChanges() {
        for (int n = 4; n <= 7; n++) {
            BellfounderTower tower = new BellfounderTower();
            tower.begin(n);
            tower.at(1, n % 2 == 0 ? 0 : 1);
            for (int call = 0; call <= 2; call++) {
                Check.is("lead of rounds", tower.lead(Edges.ROUNDS[n - 4], call), Edges.ROUNDS[n - 4]);
                Check.is("lead backwards", tower.lead(Edges.BACKWARDS[n - 4], call), Edges.BACKWARDS[n - 4]);
            }
        }
    }

    private static void leadRefusesNoRow() {
        for (BellfounderTower tower : new BellfounderTower[] {new BellfounderTower(), full()}) {
            for (int row : Edges.NO_ROWS_OF_FIVE) {
                Check.illegal("lead(" + row + ", 0)", tower, () -> tower.lead(row, 0));
            }
        }
    }

    private static void leadRefusesOtherCalls() {
        for (BellfounderTower tower : new BellfounderTower[] {new BellfounderTower(), full()}) {
            for (int call : Edges.NO_CALLS) {
                Check.illegal("lead(12345, " + call + ")", tower, () -> tower.lead(12345, call));
            }
        }
    }

    private static void crossedNoneToAll() {
        for (int n = 4; n <= 7; n++) {
            BellfounderTower tower = new BellfounderTower();
            tower.begin(n);
            Check.is("none in rounds of " + n, tower.crossed(Edges.ROUNDS[n - 4]), 0);
            Check.is("all backwards of " + n, tower.crossed(Edges.BACKWARDS[n - 4]), n * (n - 1) / 2);
        }
        BellfounderTower five = new BellfounderTower();
        Check.is("the first two alone", five.crossed(21345), 1);
        Check.is("the last two alone", five.crossed(12354), 1);
        Check.is("the first and the last one", five.crossed(52341), 7);
        Check.is("all but one", five.crossed(54312), 9);
    }

    private static void crossedRefusesNoRow() {
        BellfounderTower tower = new BellfounderTower();
        for (int row : Edges.NO_ROWS_OF_FIVE) {
            Check.illegal("crossed(" + row + ")", tower, () -> tower.crossed(row));
        }
        tower.begin(4);
        Check.illegal("a row of five on four", tower, () -> tower.crossed(12345));
        tower.begin(6);
        Check.illegal("a row of five on six", tower, () -> tower.crossed(12345));
    }
}
