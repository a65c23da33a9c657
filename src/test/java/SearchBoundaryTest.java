import java.math.BigInteger;

/** Promises 24 to 29: each sentence that names a boundary case has a test of its own. */
public final class SearchBoundaryTest {

    public static void main(String[] args) {
        Check.sentence("(nothing is changed)", SearchBoundaryTest::nothingIsChanged);
        good();
        best();
        others();
        digest();
        Check.end("SearchBoundaryTest");
    }

    private static void good() {
        Check.sentence("24: how many GOOD TOUCHES there are", SearchBoundaryTest::goodNoneToAll);
        Check.sentence("24: Throws IllegalArgumentException if k is not 0 to 5", SearchBoundaryTest::goodRefuses);
    }

    private static void best() {
        Check.sentence("25: the MUSIC of the GOOD one that has the most", SearchBoundaryTest::bestHasTheMost);
        Check.sentence("25: NONE without any", SearchBoundaryTest::bestNone);
        Check.sentence("25: Throws IllegalArgumentException if k is not 0 to 5", SearchBoundaryTest::bestRefuses);
        Check.sentence("26: a place in it, from 0", SearchBoundaryTest::bestCallFirstAndLast);
        Check.sentence("26: of the first GOOD one with the most MUSIC", SearchBoundaryTest::bestCallOfTheFirst);
        Check.sentence("26: Throws IllegalArgumentException if k is not 0 to 5",
                SearchBoundaryTest::bestCallRefusesLeads);
        Check.sentence("26: Throws IndexOutOfBoundsException if there is no GOOD one",
                SearchBoundaryTest::bestCallRefusesNone);
        Check.sentence("26: Throws IndexOutOfBoundsException if there is .. no such place",
                SearchBoundaryTest::bestCallRefusesPlaces);
    }

    private static void others() {
        Check.sentence("27: with that CALL in place of the one there", SearchBoundaryTest::endWithFirstAndLast);
        Check.sentence("27: Throws IndexOutOfBoundsException if there is no such place",
                SearchBoundaryTest::endWithRefusesPlaces);
        Check.sentence("27: Throws IllegalArgumentException if call is not 0 to 2",
                SearchBoundaryTest::endWithRefusesCalls);
        Check.sentence("28: a LEAD with that, behind the END (each counts)", SearchBoundaryTest::clashesNoneToAll);
        Check.sentence("28: the same as one of the TOUCH, without ROWS", SearchBoundaryTest::clashesWithoutRows);
        Check.sentence("28: Throws IllegalArgumentException if call is not 0 to 2", SearchBoundaryTest::clashesRefuses);
    }

    private static void digest() {
        Check.sentence("29: A number d starts with 1045", SearchBoundaryTest::digestOfTheLeast);
        Check.sentence("29: wraps around as a 64-bit integer", SearchBoundaryTest::digestWrapsAround);
        Check.sentence("29: good() and best() of 3", SearchBoundaryTest::digestOfThreeLeads);
    }

    // ---- towers

    /** A tower with a bob and a single that are not of all places. */
    private static BellfounderTower called(int n, int change, int bob, int single) {
        BellfounderTower tower = Towers.of(n, change);
        tower.at(1, bob);
        tower.at(2, single);
        return tower;
    }

    /** 14 changes and 24 calls. */
    private static BellfounderTower full() {
        int[] calls = new int[24];
        calls[23] = 2;
        return Towers.huntOnSeven(calls);
    }

    private static BellfounderTower[] fromEmptyToFull() {
        return new BellfounderTower[] {
            new BellfounderTower(), Towers.laid(Towers.of(4), 0, 1), Towers.of(4, 0),
            Towers.laid(Towers.of(4, 0), 0, 0), full(),
        };
    }

    // ---- nothing is changed

    private static void nothingIsChanged() {
        for (BellfounderTower tower : fromEmptyToFull()) {
            long before = tower.digest();
            for (int k = 0; k <= 5; k++) {
                tower.good(k);
                tower.best(k);
                int leads = k;
                Check.answerOf(() -> tower.bestCall(leads, 0));
            }
            for (int call = 0; call <= 2; call++) {
                int asked = call;
                tower.clashes(call);
                Check.answerOf(() -> tower.endWith(0, asked));
            }
            Check.is("digest behind all of them", tower.digest(), before);
        }
    }

    // ---- promises 24 to 26

    private static void goodNoneToAll() {
        for (BellfounderTower tower : fromEmptyToFull()) {
            Check.is("good(0)", tower.good(0), 0);
        }
        Check.is("without changes", new BellfounderTower().good(5), 0);
        Check.is("all of one lead", Towers.of(7, 127).good(1), 3);
        Check.is("all of two leads", called(6, 0, 0, 0).good(2), 9);
        Check.is("five of two leads, and of four none", called(5, 25, 28, 28).good(5), 5);
        BellfounderTower five = Towers.huntOnFive();
        five.at(1, 16);
        five.at(2, 16);
        Check.is("none of four leads", five.good(4), 0);
        Check.is("all of five leads", five.good(5), 243);
        Check.is("the calls that are laid do not matter", Towers.laid(Towers.of(7, 127), 0, 1, 2).good(1), 3);
    }

    private static void goodRefuses() {
        for (BellfounderTower tower : fromEmptyToFull()) {
            for (int k : Edges.NO_LEADS) {
                Check.illegal("good(" + k + ")", tower, () -> tower.good(k));
            }
        }
    }

    private static void bestHasTheMost() {
        Check.is("rounds alone, the least there can be", Towers.of(4, 15).best(1), 8);
        Check.is("rounds of seven", Towers.of(7, 127).best(5), 14);
        BellfounderTower tower = Towers.plainBobMinimus();
        int[] due = {-1, 16, 16, 28, 28, 28};
        for (int k = 0; k <= 5; k++) {
            Check.is("best(" + k + ")", tower.best(k), due[k]);
        }
        tower.begin(5);
        tower.change(28);
        tower.at(1, 16);
        tower.at(2, 16);
        Check.is("the first one has the most", tower.best(2), 13);
        tower.at(2, 28);
        Check.is("the last one has the most too", tower.best(2), 13);
    }

    private static void bestNone() {
        for (int k = 0; k <= 5; k++) {
            Check.is("without changes, best(" + k + ")", new BellfounderTower().best(k), -1);
            Check.is("false ones, best(" + k + ")", Towers.of(4, 15, 15).best(k), -1);
        }
        Check.is("best(0)", Towers.of(4, 15).best(0), -1);
        Check.is("behind one that has music", Towers.huntOnFive().best(4), -1);
        BellfounderTower tower = Towers.of(4, 15);
        Check.is("one", tower.best(1), 8);
        Check.is("and none again", tower.best(0), -1);
    }

    private static void bestRefuses() {
        for (BellfounderTower tower : fromEmptyToFull()) {
            for (int k : Edges.NO_LEADS) {
                Check.illegal("best(" + k + ")", tower, () -> tower.best(k));
            }
        }
    }

    private static void bestCallFirstAndLast() {
        Check.is("one lead", Towers.of(4, 15).bestCall(1, 0), 0);
        BellfounderTower five = Towers.huntOnFive();
        for (int place = 0; place <= 4; place++) {
            Check.is("five leads: " + place, five.bestCall(5, place), 0);
        }
        BellfounderTower mixed = Towers.of(5, 16);
        mixed.at(1, 28);
        mixed.at(2, 31);
        Check.is("the single alone has 10, two bobs 13", mixed.best(5), 13);
        Check.is("the first bob", mixed.bestCall(5, 0), 1);
        Check.is("the second bob", mixed.bestCall(5, 1), 1);
    }

    private static void bestCallOfTheFirst() {
        Check.is("three of one lead with the same row", Towers.of(4, 15).bestCall(5, 0), 0);
        BellfounderTower nine = called(4, 0, 0, 0);
        Check.is("nine of two leads: the first call", nine.bestCall(5, 0), 0);
        Check.is("nine of two leads: the second call", nine.bestCall(5, 1), 0);
        BellfounderTower four = called(5, 16, 28, 28);
        Check.is("four of two leads without plain ones: the first call", four.bestCall(5, 0), 1);
        Check.is("four of two leads without plain ones: the second call", four.bestCall(5, 1), 1);
        BellfounderTower fewer = called(4, 0, 0, 15);
        Check.is("one lead ahead of two with as much music", fewer.bestCall(5, 0), 2);
    }

    private static void bestCallRefusesLeads() {
        for (BellfounderTower tower : fromEmptyToFull()) {
            for (int k : Edges.NO_LEADS) {
                Check.illegal("bestCall(" + k + ", 0)", tower, () -> tower.bestCall(k, 0));
            }
        }
    }

    private static void bestCallRefusesNone() {
        BellfounderTower[] towers = {
            new BellfounderTower(), Towers.laid(Towers.of(4), 0, 1), Towers.of(4, 15, 15),
            Towers.of(6, 0, 33), Towers.laid(Towers.of(6, 0, 33), 0),
        };
        for (BellfounderTower tower : towers) {
            for (int k = 0; k <= 5; k++) {
                int leads = k;
                Check.index("bestCall(" + k + ", 0)", tower, () -> tower.bestCall(leads, 0));
                Check.index("bestCall(" + k + ", -1)", tower, () -> tower.bestCall(leads, -1));
            }
        }
        BellfounderTower good = Towers.of(4, 15);
        Check.is("one of one lead", good.bestCall(1, 0), 0);
        Check.index("and none of no leads", good, () -> good.bestCall(0, 0));
    }

    private static void bestCallRefusesPlaces() {
        BellfounderTower[] towers = {
            Towers.of(4, 15), called(4, 0, 0, 0), Towers.plainBobMinimus(), Towers.huntOnFive(),
        };
        int[] leads = {1, 2, 3, 5};
        for (int k = 0; k < towers.length; k++) {
            BellfounderTower tower = towers[k];
            int last = leads[k] - 1;
            Check.is("the last place of " + leads[k], tower.bestCall(5, last), 0);
            for (int place : Edges.noPlaceOf(last + 1)) {
                Check.index("bestCall(5, " + place + ") of " + leads[k], tower, () -> tower.bestCall(5, place));
            }
        }
    }

    // ---- promises 27 and 28

    private static void endWithFirstAndLast() {
        BellfounderTower tower = Towers.huntOnFive();
        Towers.laid(tower, 0, 0, 0, 0, 0);
        Check.is("the same call", tower.endWith(0, 0), 12345);
        Check.is("a bob first", tower.endWith(0, 1), 35142);
        Check.is("a bob last", tower.endWith(4, 1), 21435);
        Check.is("a single last", tower.endWith(4, 2), 21435);
        Check.is("the end still", tower.touch(1), 12345);
        Towers.laid(tower, new int[19]);
        Check.is("the 24th, the same call", tower.endWith(23, 0), 24153);
        Check.is("the 24th, a bob", tower.endWith(23, 1), 42513);
        BellfounderTower silent = Towers.laid(new BellfounderTower(), 0, 1);
        Check.is("without changes, the first", silent.endWith(0, 2), 12345);
        Check.is("without changes, the last", silent.endWith(1, 2), 12345);
    }

    private static void endWithRefusesPlaces() {
        for (int calls : new int[] {0, 1, 23, 24}) {
            BellfounderTower tower = Towers.huntOnFive(new int[calls]);
            for (int place : Edges.noPlaceOf(calls)) {
                Check.index("endWith(" + place + ", 0) of " + calls, tower, () -> tower.endWith(place, 0));
            }
        }
    }

    private static void endWithRefusesCalls() {
        BellfounderTower[] towers = {Towers.laid(Towers.of(5), 0), Towers.huntOnFive(0, 1), full()};
        for (BellfounderTower tower : towers) {
            for (int call : Edges.NO_CALLS) {
                Check.illegal("endWith(0, " + call + ")", tower, () -> tower.endWith(0, call));
            }
        }
    }

    private static void clashesNoneToAll() {
        BellfounderTower tower = Towers.huntOnFive(0, 0, 0, 0);
        Check.is("none", tower.clashes(0), 0);
        tower.call(0);
        Check.is("all behind rounds", tower.clashes(0), 2);
        BellfounderTower one = Towers.laid(Towers.of(4, 0, 0), 1);
        Check.is("each counts: 2143, and 1234, which is not rung", one.clashes(0), 1);
        Check.is("each counts: 1234 is not rung, nor twice", one.clashes(1), 0);
        BellfounderTower full = full();
        full.uncall();
        Check.is("all 14", full.clashes(0), 14);
        BellfounderTower rounds = Towers.laid(Towers.of(4, 15, 15, 15), 0);
        Check.is("rounds three times", rounds.clashes(2), 3);
        BellfounderTower within = Towers.laid(called(4, 0, 9, 9), 0);
        Check.is("a row of the lead alone is none of the touch", within.clashes(1), 0);
    }

    private static void clashesWithoutRows() {
        BellfounderTower tower = Towers.of(4, 0, 0, 15);
        for (int call = 0; call <= 2; call++) {
            Check.is("without calls, though the lead is false", tower.clashes(call), 0);
            Check.is("without changes", Towers.laid(Towers.of(4), 0, 0).clashes(call), 0);
            Check.is("without both", new BellfounderTower().clashes(call), 0);
        }
    }

    private static void clashesRefuses() {
        for (BellfounderTower tower : fromEmptyToFull()) {
            for (int call : Edges.NO_CALLS) {
                Check.illegal("clashes(" + call + ")", tower, () -> tower.clashes(call));
            }
        }
    }

    // ---- promise 29

    private static void digestOfTheLeast() {
        long[] values = {5, 0, 31, 31, 0, 5, 0, 12345, 0, 1, -1, 0, 0, 0, 0, 0, 0, 0, 0, 0, 0, 0, 0, -1};
        long d = 1045;
        for (long value : values) {
            d = d * 31 + value;
        }
        Check.is("a new tower", new BellfounderTower().digest(), d);
        Check.is("a new tower, once more", new BellfounderTower().digest(), -1842964189053871377L);
    }

    private static void digestWrapsAround() {
        for (BellfounderTower tower : fromEmptyToFull()) {
            BigInteger d = BigInteger.valueOf(1045);
            for (int value : Digest.values(tower)) {
                d = d.multiply(BigInteger.valueOf(31)).add(BigInteger.valueOf(value));
            }
            Check.is("more than 64 bits", d.bitLength() > 64, true);
            Check.is("digest()", tower.digest(), d.longValue());
        }
    }

    /** Plain bob has a good touch of three leads besides that of one; plain hunt has one of four leads alone. */
    private static void digestOfThreeLeads() {
        Check.is("plain bob, good(2)", Towers.plainBobMinimus().good(2), 1);
        Check.is("plain bob, good(3)", Towers.plainBobMinimus().good(3), 2);
        Check.is("plain hunt on four, good(3)", Towers.of(4, 0, 9).good(3), 0);
        Check.is("plain hunt on four, good(4)", Towers.of(4, 0, 9).good(4), 1);
        for (BellfounderTower tower : new BellfounderTower[] {Towers.plainBobMinimus(), Towers.of(4, 0, 9)}) {
            Check.is("digest()", tower.digest(), Digest.addedUp(tower));
        }
    }
}
