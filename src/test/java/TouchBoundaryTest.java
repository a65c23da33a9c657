/** Promises 13 to 23: each sentence that names a boundary case has a test of its own. */
public final class TouchBoundaryTest {

    public static void main(String[] args) {
        laying();
        asking();
        rows();
        bells();
        leads();
        Check.end("TouchBoundaryTest");
    }

    private static void laying() {
        Check.sentence("13: Lays a CALL; returns the END then", TouchBoundaryTest::callReturnsTheEnd);
        Check.sentence("13: Throws IllegalArgumentException if call is not 0 to 2",
                TouchBoundaryTest::callRefusesOtherCalls);
        Check.sentence("13: Throws IllegalStateException if there are 24", TouchBoundaryTest::callRefusesATwentyFifth);
        Check.sentence("14: Takes the last CALL away; returns the CALL", TouchBoundaryTest::uncallToTheLast);
        Check.sentence("14: Throws IllegalStateException if there is none", TouchBoundaryTest::uncallRefusesNone);
        Check.sentence("15: a place among the CALLS, from 0", TouchBoundaryTest::callAtFirstAndLast);
        Check.sentence("15: Throws IndexOutOfBoundsException if there is no such place",
                TouchBoundaryTest::callAtRefuses);
    }

    private static void asking() {
        Check.sentence("16: 0 how many ROWS it has", TouchBoundaryTest::rowsNoneToAll);
        Check.sentence("16: 2 1 if it COMES ROUND, otherwise 0", TouchBoundaryTest::oneOrNoughtForRound);
        Check.sentence("16: 3 1 if it is TRUE, otherwise 0", TouchBoundaryTest::oneOrNoughtForTrue);
        Check.sentence("16: 4 the number of the first ROW that is the same as one ahead of it",
                TouchBoundaryTest::firstRepeat);
        Check.sentence("16: 4 .. (NONE)", TouchBoundaryTest::noRepeat);
        Check.sentence("16: 5 its PARTS", TouchBoundaryTest::parts);
        Check.sentence("16: 7 how many different ROWS it has", TouchBoundaryTest::differentRows);
        Check.sentence("16: Throws IllegalArgumentException if what is not 0 to 7", TouchBoundaryTest::touchRefuses);
    }

    private static void rows() {
        Check.sentence("17: Returns the ROW", TouchBoundaryTest::firstAndLastRow);
        Check.sentence("17: Throws IndexOutOfBoundsException if there is no such one", TouchBoundaryTest::rowRefuses);
        Check.sentence("18: the number of the first one in the TOUCH that is the same", TouchBoundaryTest::whereFirst);
        Check.sentence("18: NONE without one", TouchBoundaryTest::whereNone);
        Check.sentence("18: Throws IllegalArgumentException if it is no ROW", TouchBoundaryTest::whereRefuses);
        Check.sentence("21: Throws IllegalArgumentException if it is no ROW", TouchBoundaryTest::musicRefuses);
    }

    private static void bells() {
        Check.sentence("19: Returns its PLACE in that", TouchBoundaryTest::firstAndLastPlace);
        Check.sentence("19: Throws IndexOutOfBoundsException if there is no such BELL",
                TouchBoundaryTest::placeRefusesBells);
        Check.sentence("19: Throws IndexOutOfBoundsException if there is no such .. ROW",
                TouchBoundaryTest::placeRefusesRows);
        Check.sentence("20: the greatest number of ROWS, one behind the other", TouchBoundaryTest::longestOneToAll);
        Check.sentence("20: 0 without ROWS", TouchBoundaryTest::longestWithoutRows);
        Check.sentence("20: Throws IndexOutOfBoundsException if there is no such BELL",
                TouchBoundaryTest::longestRefuses);
        Check.sentence("23: the mean PLACE of the BELL n, not cut", TouchBoundaryTest::meanNotCut);
        Check.sentence("23: 0 without ROWS", TouchBoundaryTest::meanWithoutRows);
    }

    private static void leads() {
        Check.sentence("22: another one, or the same", TouchBoundaryTest::commonWithItself);
        Check.sentence("22: as many as different ROWS that are in both", TouchBoundaryTest::commonNoneToAll);
        Check.sentence("22: Throws IndexOutOfBoundsException if there is no such place",
                TouchBoundaryTest::commonRefuses);
    }

    // ---- towers

    private static BellfounderTower one(int n, int change, int... calls) {
        return Towers.laid(Towers.of(n, change), calls);
    }

    /** 336 rows of seven bells, 14 of them others. */
    private static BellfounderTower full() {
        return Towers.huntOnSeven(new int[24]);
    }

    private static BellfounderTower[] emptySomeAndFull() {
        return new BellfounderTower[] {new BellfounderTower(), Towers.huntOnFive(0, 2), full()};
    }

    /** Calls, but no changes. */
    private static BellfounderTower silent() {
        return Towers.laid(new BellfounderTower(), 0, 1, 2);
    }

    // ---- promises 13 to 15

    private static void callReturnsTheEnd() {
        BellfounderTower tower = Towers.huntOnFive();
        int[] ends = {31524, 53412, 45231, 24153, 12345, 31524};
        for (int end : ends) {
            Check.is("call(0)", tower.call(0), end);
        }
        Check.is("call(1) of all places", tower.call(1), 35142);
        Check.is("without changes", new BellfounderTower().call(2), 12345);
    }

    private static void callRefusesOtherCalls() {
        for (BellfounderTower tower : emptySomeAndFull()) {
            for (int call : Edges.NO_CALLS) {
                Check.illegal("call(" + call + ")", tower, () -> tower.call(call));
            }
        }
    }

    private static void callRefusesATwentyFifth() {
        BellfounderTower tower = Towers.huntOnFive(new int[23]);
        Check.is("the 24th", tower.call(2), 42513);
        for (int call = 0; call <= 2; call++) {
            int asked = call;
            Check.state("call(" + call + ") as the 25th", tower, () -> tower.call(asked));
        }
        Check.is("the 24th still", tower.callAt(23), 2);
        tower.uncall();
        Check.is("there is room for one again", tower.call(0), 24153);
    }

    private static void uncallToTheLast() {
        BellfounderTower tower = Towers.huntOnFive();
        for (int k = 0; k < 24; k++) {
            tower.call(k % 3);
        }
        for (int k = 23; k >= 0; k--) {
            Check.is("uncall() of number " + (k + 1), tower.uncall(), k % 3);
            Check.is("calls left", tower.told(4), k);
            Check.is("rows left", tower.touch(0), 2 * k);
        }
        Check.is("end without calls", tower.touch(1), 12345);
        BellfounderTower plain = Towers.huntOnFive(new int[24]);
        for (int k = 23; k >= 0; k--) {
            plain.uncall();
            Check.is("different rows left", plain.touch(7), Math.min(2 * k, 10));
            Check.is("the first one that came again", plain.touch(4), k > 5 ? 10 : -1);
        }
    }

    private static void uncallRefusesNone() {
        BellfounderTower tower = Towers.huntOnFive();
        Check.state("no call laid", tower, tower::uncall);
        tower.call(1);
        Check.is("the only one", tower.uncall(), 1);
        Check.state("behind that", tower, tower::uncall);
        BellfounderTower begun = full();
        begun.begin(7);
        Check.state("behind begin()", begun, begun::uncall);
    }

    private static void callAtFirstAndLast() {
        BellfounderTower tower = Towers.huntOnFive(2);
        Check.is("callAt(0) of one", tower.callAt(0), 2);
        Towers.laid(tower, new int[22]);
        tower.call(1);
        Check.is("callAt(0) of 24", tower.callAt(0), 2);
        Check.is("callAt(22) of 24", tower.callAt(22), 0);
        Check.is("callAt(23) of 24", tower.callAt(23), 1);
    }

    private static void callAtRefuses() {
        for (int calls : new int[] {0, 1, 23, 24}) {
            BellfounderTower tower = Towers.huntOnFive(new int[calls]);
            for (int k : Edges.noPlaceOf(calls)) {
                Check.index("callAt(" + k + ") of " + calls, tower, () -> tower.callAt(k));
            }
        }
        BellfounderTower shorter = Towers.huntOnFive(0, 1, 2);
        shorter.uncall();
        Check.index("the one taken away", shorter, () -> shorter.callAt(2));
    }

    // ---- promise 16

    private static void rowsNoneToAll() {
        Check.is("without calls", Towers.huntOnFive().touch(0), 0);
        Check.is("without changes", silent().touch(0), 0);
        Check.is("one", one(4, 0, 0).touch(0), 1);
        Check.is("all there can be", full().touch(0), 336);
    }

    private static void oneOrNoughtForRound() {
        Check.is("without calls", Towers.huntOnFive().touch(2), 0);
        Check.is("without changes", silent().touch(2), 0);
        Check.is("four leads", Towers.huntOnFive(0, 0, 0, 0).touch(2), 0);
        Check.is("five leads", Towers.huntOnFive(0, 0, 0, 0, 0).touch(2), 1);
        Check.is("six leads", Towers.huntOnFive(0, 0, 0, 0, 0, 0).touch(2), 0);
        Check.is("ten leads, false too", Towers.huntOnFive(new int[10]).touch(2), 1);
    }

    private static void oneOrNoughtForTrue() {
        Check.is("without calls", Towers.huntOnFive().touch(3), 1);
        Check.is("without changes", silent().touch(3), 1);
        Check.is("one row", one(4, 15, 0).touch(3), 1);
        Check.is("two rows, the same", one(4, 15, 0, 0).touch(3), 0);
        Check.is("two rows, not the same", one(4, 0, 0, 0).touch(3), 1);
        Check.is("true without coming round", Towers.huntOnFive(0, 0, 0, 0).touch(3), 1);
        Check.is("the last row is the first one", one(4, 0, 0, 0, 0).touch(3), 0);
    }

    private static void firstRepeat() {
        Check.is("row 1 is row 0", one(4, 15, 0, 0).touch(4), 1);
        Check.is("row 10 is row 0", Towers.huntOnFive(new int[6]).touch(4), 10);
        Check.is("the first of many", Towers.huntOnFive(new int[24]).touch(4), 10);
        Check.is("row 335 among them", full().touch(4), 14);
        BellfounderTower tower = Towers.huntOnFive(0, 0, 1);
        Check.is("the last row is the one ahead of it", tower.touch(4), 5);
        tower.uncall();
        Check.is("not with that taken away", tower.touch(4), -1);
        tower.call(0);
        tower.call(2);
        Check.is("and another one", tower.touch(4), 7);
    }

    private static void noRepeat() {
        Check.is("without calls", Towers.huntOnFive().touch(4), -1);
        Check.is("without changes", silent().touch(4), -1);
        Check.is("one row, which is rounds", one(4, 15, 0).touch(4), -1);
        Check.is("ten rows", Towers.huntOnFive(new int[5]).touch(4), -1);
    }

    private static void parts() {
        Check.is("without calls", Towers.huntOnFive().touch(5), 0);
        Check.is("without changes", silent().touch(5), 0);
        Check.is("round already", Towers.huntOnFive(0, 0, 0, 0, 0).touch(5), 1);
        Check.is("a lead, five times", Towers.huntOnFive(0).touch(5), 5);
        Check.is("two leads, five times", Towers.huntOnFive(0, 0).touch(5), 5);
        Check.is("a change, twice", one(7, 64, 0).touch(5), 2);
    }

    private static void differentRows() {
        Check.is("without calls", Towers.huntOnFive().touch(7), 0);
        Check.is("without changes", silent().touch(7), 0);
        Check.is("one row, which is rounds", one(4, 15, 0).touch(7), 1);
        Check.is("24 rows, which are rounds", one(4, 15, new int[24]).touch(7), 1);
        Check.is("24 rows, two others", one(4, 0, new int[24]).touch(7), 2);
        Check.is("336 rows, 14 others", full().touch(7), 14);
    }

    private static void touchRefuses() {
        for (BellfounderTower tower : emptySomeAndFull()) {
            for (int what : new int[] {-1, 8, 9, -7, Edges.LOWEST, Edges.HIGHEST}) {
                Check.illegal("touch(" + what + ")", tower, () -> tower.touch(what));
            }
        }
    }

    // ---- promises 17, 18 and 21

    private static void firstAndLastRow() {
        BellfounderTower tower = one(4, 0, 0);
        Check.is("the only one", tower.row(0), 2143);
        BellfounderTower full = full();
        Check.is("row(0)", full.row(0), 2143657);
        Check.is("row(13)", full.row(13), 1234567);
        Check.is("row(14)", full.row(14), 2143657);
        Check.is("row(335)", full.row(335), 1234567);
    }

    private static void rowRefuses() {
        BellfounderTower[] towers = {Towers.huntOnFive(), silent(), one(4, 0, 0), Towers.huntOnFive(0, 0, 0), full()};
        for (BellfounderTower tower : towers) {
            int rows = tower.touch(0);
            for (int k : Edges.noPlaceOf(rows)) {
                Check.index("row(" + k + ") of " + rows, tower, () -> tower.row(k));
            }
        }
        BellfounderTower shorter = Towers.huntOnFive(0, 0);
        shorter.uncall();
        Check.index("a row taken away with its call", shorter, () -> shorter.row(2));
        shorter.unchange();
        Check.index("a row taken away with its change", shorter, () -> shorter.row(1));
    }

    private static void whereFirst() {
        BellfounderTower tower = Towers.huntOnFive(new int[24]);
        Check.is("the first row", tower.where(13254), 0);
        Check.is("rounds, rung four times", tower.where(12345), 9);
        Check.is("the last row too", tower.where(24153), 7);
        BellfounderTower full = full();
        Check.is("the last of all seven bells' rows", full.where(7654321), 6);
        Check.is("the first of them", full.where(1234567), 13);
        BellfounderTower late = Towers.huntOnFive(0, 0, 0);
        late.uncall();
        Check.is("the last one left", late.where(53412), 3);
        late.call(0);
        Check.is("one laid again", late.where(45231), 5);
    }

    private static void whereNone() {
        Check.is("without calls", Towers.huntOnFive().where(12345), -1);
        Check.is("without changes", silent().where(12345), -1);
        Check.is("not in four leads", Towers.huntOnFive(0, 0, 0, 0).where(12345), -1);
        Check.is("the first of all rows", full().where(1234576), -1);
        Check.is("the last but one of all rows", full().where(7654312), -1);
        BellfounderTower shorter = Towers.huntOnFive(0, 0, 0, 0, 0);
        shorter.uncall();
        Check.is("taken away", shorter.where(12345), -1);
        shorter.begin(5);
        Check.is("behind begin()", shorter.where(13254), -1);
    }

    private static void whereRefuses() {
        for (BellfounderTower tower : new BellfounderTower[] {new BellfounderTower(), Towers.huntOnFive(0, 0)}) {
            for (int row : Edges.NO_ROWS_OF_FIVE) {
                Check.illegal("where(" + row + ")", tower, () -> tower.where(row));
            }
        }
    }

    private static void musicRefuses() {
        BellfounderTower tower = Towers.huntOnFive(0, 0);
        for (int row : Edges.NO_ROWS_OF_FIVE) {
            Check.illegal("music(" + row + ")", tower, () -> tower.music(row));
        }
        tower.begin(4);
        Check.illegal("a row of five on four", tower, () -> tower.music(12345));
        tower.begin(7);
        Check.illegal("a row of five on seven", tower, () -> tower.music(12345));
    }

    // ---- promises 19, 20 and 23

    private static void firstAndLastPlace() {
        BellfounderTower full = full();
        Check.is("bell 7 in front", full.place(7, 6), 1);
        Check.is("bell 1 behind", full.place(1, 6), 7);
        Check.is("bell 1 in the last row", full.place(1, 335), 1);
        Check.is("bell 7 in the last row", full.place(7, 335), 7);
        Check.is("bell 7 in the first row", full.place(7, 0), 7);
        Check.is("bell 1 in the first row", full.place(1, 0), 2);
    }

    private static void placeRefusesBells() {
        for (int n = 4; n <= 7; n++) {
            BellfounderTower tower = one(n, (1 << n) - 1, 0);
            Check.is("place(n, 0)", tower.place(n, 0), n);
            for (int bell : Edges.noBellOf(n)) {
                Check.index("place(" + bell + ", 0) of " + n, tower, () -> tower.place(bell, 0));
                Check.index("place(" + bell + ", 1) of " + n, tower, () -> tower.place(bell, 1));
            }
        }
    }

    private static void placeRefusesRows() {
        BellfounderTower[] towers = {Towers.huntOnFive(), silent(), Towers.huntOnFive(0, 0, 0), full()};
        for (BellfounderTower tower : towers) {
            int rows = tower.touch(0);
            for (int k : Edges.noPlaceOf(rows)) {
                Check.index("place(1, " + k + ") of " + rows, tower, () -> tower.place(1, k));
            }
        }
    }

    private static void longestOneToAll() {
        Check.is("one row", one(4, 0, 0).longest(1), 1);
        Check.is("never twice in the same place", one(4, 0, new int[24]).longest(1), 1);
        Check.is("in all rows", one(5, 1, new int[24]).longest(1), 24);
        Check.is("the others not", one(5, 1, new int[24]).longest(5), 1);
        BellfounderTower tower = full();
        for (int bell = 1; bell <= 7; bell++) {
            Check.is("longest(" + bell + ") in plain hunt", tower.longest(bell), 2);
        }
        BellfounderTower atTheEnd = one(5, 1, 0, 0, 1, 2);
        Check.is("the longest at the end", atTheEnd.longest(3), 3);
        BellfounderTower atTheBeginning = one(5, 1, 1, 2, 0, 0);
        Check.is("the longest at the beginning", atTheBeginning.longest(3), 2);
    }

    private static void longestWithoutRows() {
        for (int bell = 1; bell <= 5; bell++) {
            Check.is("without calls", Towers.huntOnFive().longest(bell), 0);
            Check.is("without changes", silent().longest(bell), 0);
        }
    }

    private static void longestRefuses() {
        for (int n = 4; n <= 7; n++) {
            for (BellfounderTower tower : new BellfounderTower[] {one(n, (1 << n) - 1, 0), one(n, (1 << n) - 1)}) {
                for (int bell : Edges.noBellOf(n)) {
                    Check.index("longest(" + bell + ") of " + n, tower, () -> tower.longest(bell));
                }
            }
        }
    }

    private static void meanNotCut() {
        BellfounderTower three = one(5, 1, 0, 1, 0);
        Check.is("4, 4 and 5", three.meanPlace(), 13.0 / 3.0);
        Check.is("always the last place", one(4, 15, new int[24]).meanPlace(), 4.0);
        Check.is("half of the rows", one(4, 0, 0, 0).meanPlace(), 3.5);
        Check.is("all of 336 rows", full().meanPlace(), 4.0);
        BellfounderTower longer = Towers.huntOnFive(new int[5]);
        Check.is("ten rows", longer.meanPlace(), 3.0);
        longer.call(0);
        Check.is("twelve rows", longer.meanPlace(), 37.0 / 12.0);
    }

    private static void meanWithoutRows() {
        Check.is("without calls", Towers.huntOnFive().meanPlace(), 0.0);
        Check.is("without changes", silent().meanPlace(), 0.0);
        BellfounderTower shorter = Towers.huntOnFive(0);
        shorter.uncall();
        Check.is("the call taken away", shorter.meanPlace(), 0.0);
        Check.is("with one row", one(5, 28, 0).meanPlace(), 5.0);
    }

    // ---- promise 22

    private static void commonWithItself() {
        BellfounderTower tower = Towers.huntOnFive(0, 1, 0);
        Check.is("common(0, 0)", tower.common(0, 0), 2);
        Check.is("common(1, 1), a row rung twice", tower.common(1, 1), 1);
        Check.is("common(2, 2)", tower.common(2, 2), 2);
        Check.is("common(0, 0) of 14 rows", full().common(0, 0), 14);
        Check.is("common(23, 23) of 14 rows", full().common(23, 23), 14);
        Check.is("common(0, 0) without changes", silent().common(0, 0), 0);
        Check.is("common(0, 2) without changes", silent().common(0, 2), 0);
    }

    private static void commonNoneToAll() {
        BellfounderTower tower = Towers.huntOnFive(new int[6]);
        Check.is("none", tower.common(0, 1), 0);
        Check.is("all", tower.common(0, 5), 2);
        Check.is("all, the other way round", tower.common(5, 0), 2);
        Check.is("not those of the lead behind", tower.common(0, 4), 0);
        Check.is("not those of the lead ahead", tower.common(5, 1), 0);
        BellfounderTower twice = one(4, 15, 0);
        twice.change(15);
        twice.call(0);
        Check.is("the same row twice in both", twice.common(0, 1), 1);
        BellfounderTower some = Towers.huntOnFive(0, 0, 0, 0, 0, 1);
        Check.is("one, rung twice in the other", some.common(0, 5), 1);
        Check.is("one, rung twice in the one", some.common(5, 0), 1);
    }

    private static void commonRefuses() {
        for (int calls : new int[] {0, 1, 24}) {
            BellfounderTower tower = Towers.huntOnFive(new int[calls]);
            for (int place : Edges.noPlaceOf(calls)) {
                Check.index("common(" + place + ", 0) of " + calls, tower, () -> tower.common(place, 0));
                Check.index("common(0, " + place + ") of " + calls, tower, () -> tower.common(0, place));
                Check.index("common of twice " + place, tower, () -> tower.common(place, place));
            }
        }
        BellfounderTower silent = silent();
        Check.index("common(0, 3) without changes", silent, () -> silent.common(0, 3));
    }
}
