import java.util.Arrays;

/** Sections 1 to 5 of the document: each sentence that names a boundary case has a test of its own. */
public final class TermsBoundaryTest {
    /** All changes of 4, 5, 6 and 7 bells. */
    private static final int[][] CHANGES = {
        {0, 3, 9, 12, 15},
        {1, 4, 7, 16, 19, 25, 28, 31},
        {0, 3, 9, 12, 15, 33, 36, 39, 48, 51, 57, 60, 63},
        {1, 4, 7, 16, 19, 25, 28, 31, 64, 67, 73, 76, 79, 97, 100, 103, 112, 115, 121, 124, 127},
    };

    public static void main(String[] args) {
        Check.sentence("An object is used for at most 512 calls after it has been made",
                TermsBoundaryTest::fiveHundredAndTwelveCalls);
        rowsAndChanges();
        method();
        calls();
        music();
        searching();
        Check.end("TermsBoundaryTest");
    }

    private static void rowsAndChanges() {
        Check.sentence("There are BELLS 1 to n, n 4 to 7 (5 at first)", TermsBoundaryTest::bellsOneToN);
        Check.sentence("A ROW has each BELL once", TermsBoundaryTest::eachBellOnce);
        Check.sentence("its digits being the BELLS from the first PLACE on", TermsBoundaryTest::firstDigitFirstPlace);
        Check.sentence("ROUNDS are 1234 and so on up to n", TermsBoundaryTest::roundsUpToN);
        Check.sentence("PLACES are numbered from 1 to n", TermsBoundaryTest::placesOneToN);
        Check.sentence("one that is not in the set with the next one, which must not be in it either",
                TermsBoundaryTest::setsThatAreChanges);
        Check.sentence("A CHANGE is a set of PLACES, told as the sum of 2^(p - 1)", TermsBoundaryTest::notASetOfPlaces);
        Check.sentence("The BELLS in these PLACES stay; all others are changed in twos",
                TermsBoundaryTest::staysAndTwos);
        Check.sentence("also that of all PLACES, with which nothing is changed", TermsBoundaryTest::allPlaces);
        Check.sentence("and, with n even, that of none", TermsBoundaryTest::noPlaces);
    }

    private static void method() {
        Check.sentence("The METHOD has at most 14 CHANGES", TermsBoundaryTest::atMostFourteenChanges);
        Check.sentence("a BOB, or a SINGLE, can be rung instead of the last one", TermsBoundaryTest::insteadOfTheLast);
        Check.sentence("At first it has no CHANGES, and the BOB and the SINGLE are those of all PLACES",
                TermsBoundaryTest::methodAtFirst);
        Check.sentence("with a CALL: 0 PLAIN, 1 BOB, 2 SINGLE", TermsBoundaryTest::threeCalls);
        Check.sentence("it has as many ROWS as there are CHANGES", TermsBoundaryTest::asManyRowsAsChanges);
        Check.sentence("From a ROW on (which does not count)", TermsBoundaryTest::rowAheadDoesNotCount);
    }

    private static void calls() {
        Check.sentence("There are at most 24 CALLS", TermsBoundaryTest::atMostTwentyFourCalls);
        Check.sentence("by the METHOD, BOB and SINGLE as they are now", TermsBoundaryTest::asTheyAreNow);
        Check.sentence("the first one from ROUNDS on, each other one from the last ROW of the one ahead",
                TermsBoundaryTest::eachLeadFromTheOneAhead);
        Check.sentence("Its ROWS are numbered from 0, as they are rung", TermsBoundaryTest::numberedFromNought);
        Check.sentence("Without CALLS it has no ROWS, and its END is ROUNDS", TermsBoundaryTest::withoutCalls);
        Check.sentence("without CHANGES it has no ROWS, and its END is ROUNDS", TermsBoundaryTest::withoutChanges);
        Check.sentence("otherwise its END is its last ROW", TermsBoundaryTest::endIsTheLastRow);
        Check.sentence("It COMES ROUND, if it has ROWS", TermsBoundaryTest::noRowsDoNotComeRound);
        Check.sentence("and its END is ROUNDS", TermsBoundaryTest::comesRoundAtItsEnd);
        Check.sentence("It is TRUE, if no two of its ROWS are the same", TermsBoundaryTest::noTwoTheSame);
        Check.sentence("Its PARTS: .. till the last ROW is ROUNDS", TermsBoundaryTest::partsTillRounds);
        Check.sentence("Its PARTS: .. 1 at the least", TermsBoundaryTest::onePartAtTheLeast);
        Check.sentence("Its PARTS: .. 0 without ROWS", TermsBoundaryTest::noPartsWithoutRows);
    }

    private static void music() {
        Check.sentence("A RUN of a ROW are three or more BELLS", TermsBoundaryTest::threeAtTheLeast);
        Check.sentence("at its beginning, or at its end", TermsBoundaryTest::notInTheMiddle);
        Check.sentence("each one 1 more, or each one 1 less, than the one ahead of it",
                TermsBoundaryTest::noStepFromNToOne);
        Check.sentence("for its longest RUN at the beginning, if it has one", TermsBoundaryTest::longestAtTheBeginning);
        Check.sentence("and likewise at the end", TermsBoundaryTest::longestAtTheEnd);
        Check.sentence("one that is all of the ROW counts at both", TermsBoundaryTest::allOfTheRow);
        Check.sentence("The MUSIC of a TOUCH is that of its ROWS together", TermsBoundaryTest::musicTogether);
    }

    private static void searching() {
        Check.sentence("All TOUCHES of 1 to k LEADS, k 0 to 5", TermsBoundaryTest::oneToFiveLeads);
        Check.sentence("those with fewer LEADS first", TermsBoundaryTest::fewerLeadsFirst);
        Check.sentence("then by the first CALL that is not the same, the smaller one first",
                TermsBoundaryTest::smallerCallFirst);
        Check.sentence("with other CALLS they are others, also if their ROWS are the same",
                TermsBoundaryTest::othersByTheirCalls);
        Check.sentence("GOOD are those that are TRUE", TermsBoundaryTest::goodIsTrue);
        Check.sentence("and COME ROUND", TermsBoundaryTest::goodComesRound);
        Check.sentence("but not already with fewer of their LEADS", TermsBoundaryTest::notAlreadyWithFewer);
    }

    // ---- what it is

    private static void fiveHundredAndTwelveCalls() {
        BellfounderTower tower = Towers.plainBobMinimus();
        for (int k = 0; k < 250; k++) {
            Check.is("call(0)", tower.call(0), 1342);
            Check.is("uncall()", tower.uncall(), 0);
        }
        Check.is("the 511th call", tower.call(0), 1342);
        Check.is("the 512th call", tower.call(0), 1423);
        BellfounderTower searched = Towers.plainBobMinimus();
        for (int k = 11; k <= 512; k++) {
            Check.is("call number " + k + ", best(5)", searched.best(5), 28);
        }
    }

    // ---- 1. rows and changes

    private static void bellsOneToN() {
        Check.is("n at first", new BellfounderTower().told(0), 5);
        for (int n = 4; n <= 7; n++) {
            BellfounderTower tower = Towers.of(n, (1 << n) - 1);
            tower.call(0);
            Check.is("n", tower.told(0), n);
            for (int bell = 1; bell <= n; bell++) {
                Check.is("longest(" + bell + ") of " + n, tower.longest(bell), 1);
            }
            int beyond = n + 1;
            Check.index("longest(0) of " + n, tower, () -> tower.longest(0));
            Check.index("longest(n + 1) of " + n, tower, () -> tower.longest(beyond));
        }
    }

    private static void eachBellOnce() {
        allNumbersUpToFiveDigits();
        for (int n = 4; n <= 7; n++) {
            BellfounderTower tower = Towers.of(n);
            int rounds = Edges.ROUNDS[n - 4];
            int tens = 10;
            for (int k = 1; k < n; k++) {
                tens *= 10;
            }
            int[] none = {
                rounds / 10, rounds * 10, rounds * 10 + n + 1, rounds + tens, rounds + 9 * tens, rounds - 1,
                rounds + 1, rounds - n, rounds - n + 9, rounds - tens / 10, 0, -1, 1, -rounds,
                Edges.LOWEST, Edges.HIGHEST,
            };
            for (int number : none) {
                Check.illegal("crossed(" + number + ") of " + n, tower, () -> tower.crossed(number));
            }
            Check.is("crossed(" + rounds + ")", tower.crossed(rounds), 0);
            Check.is("crossed(" + Edges.BACKWARDS[n - 4] + ")", tower.crossed(Edges.BACKWARDS[n - 4]), n * (n - 1) / 2);
        }
    }

    private static void allNumbersUpToFiveDigits() {
        BellfounderTower tower = Towers.of(4);
        int rows = 0;
        for (int number = 0; number < 100_000; number++) {
            if (number % 500 == 0) {
                tower = Towers.of(4);
            }
            BellfounderTower four = tower;
            int asked = number;
            boolean isRow = !Check.answerOf(() -> four.music(asked)).startsWith("throws.");
            if (isRow) {
                rows++;
                Check.is(number + " has each bell once", sortedDigits(number), "1234");
            }
        }
        Check.is("rows of 4 bells among all numbers of up to five digits", rows, 24);
    }

    private static String sortedDigits(int number) {
        char[] digits = Integer.toString(number).toCharArray();
        Arrays.sort(digits);
        return new String(digits);
    }

    private static void firstDigitFirstPlace() {
        BellfounderTower tower = Towers.of(4);
        Check.is("places 1 and 2 stay", tower.next(4132, 3), 4123);
        Check.is("places 3 and 4 stay", tower.next(4132, 12), 1432);
        tower.change(3);
        tower.call(0);
        Check.is("the bell of the third place", tower.place(4, 0), 3);
    }

    private static void roundsUpToN() {
        Check.is("touch(1) at first", new BellfounderTower().touch(1), 12345);
        for (int n = 4; n <= 7; n++) {
            Check.is("rounds of " + n, new BellfounderTower().begin(n), Edges.ROUNDS[n - 4]);
            Check.is("touch(1) of " + n, Towers.of(n).touch(1), Edges.ROUNDS[n - 4]);
        }
    }

    private static void placesOneToN() {
        for (int n = 4; n <= 7; n++) {
            BellfounderTower tower = Towers.of(n, (1 << n) - 1);
            tower.call(0);
            Check.is("the first place of " + n, tower.place(1, 0), 1);
            Check.is("the last place of " + n, tower.place(n, 0), n);
        }
    }

    private static void setsThatAreChanges() {
        for (int n = 4; n <= 7; n++) {
            BellfounderTower tower = Towers.of(n);
            int[] changes = CHANGES[n - 4];
            for (int set = 0; set < 1 << n; set++) {
                boolean due = Arrays.binarySearch(changes, set) >= 0;
                Check.is("isChange(" + set + ") of " + n, tower.isChange(set), due);
            }
        }
        BellfounderTower five = new BellfounderTower();
        Check.illegal("place 1 without its next one", five, () -> five.change(2 + 16));
        Check.illegal("place 3 without its next one", five, () -> five.change(1 + 2 + 8));
        Check.illegal("the last place, which has no next one", five, () -> five.change(1 + 2 + 4 + 8));
        Check.illegal("the last place, left over by twos", five, () -> five.change(0));
    }

    private static void notASetOfPlaces() {
        for (int n = 4; n <= 7; n++) {
            BellfounderTower tower = Towers.of(n);
            int beyond = 1 << n;
            int[] none = {
                -1, -beyond, -beyond + 1, beyond, 2 * beyond - 1, beyond + CHANGES[n - 4][0],
                Edges.LOWEST, Edges.HIGHEST,
            };
            for (int set : none) {
                Check.is("isChange(" + set + ") of " + n, tower.isChange(set), false);
                Check.illegal("change(" + set + ") of " + n, tower, () -> tower.change(set));
            }
        }
    }

    private static void staysAndTwos() {
        BellfounderTower five = new BellfounderTower();
        int[][] due = {
            {1, 13254}, {4, 21354}, {7, 12354}, {16, 21435}, {19, 12435}, {25, 13245}, {28, 21345}, {31, 12345},
        };
        for (int[] pair : due) {
            Check.is("next(12345, " + pair[0] + ")", five.next(12345, pair[0]), pair[1]);
        }
        BellfounderTower seven = Towers.of(7);
        Check.is("the first place alone stays", seven.next(7654321, 1), 7563412);
        Check.is("the last place alone stays", seven.next(7654321, 64), 6745231);
        Check.is("the first two change alone", seven.next(7654321, 124), 6754321);
        Check.is("the last two change alone", seven.next(7654321, 31), 7654312);
    }

    private static void allPlaces() {
        for (int n = 4; n <= 7; n++) {
            int all = (1 << n) - 1;
            BellfounderTower tower = Towers.of(n);
            Check.is("isChange of all " + n, tower.isChange(all), true);
            Check.is("next by all " + n, tower.next(Edges.BACKWARDS[n - 4], all), Edges.BACKWARDS[n - 4]);
            Check.is("change of all " + n, tower.change(all), 1);
            Check.is("call(0) with all " + n, tower.call(0), Edges.ROUNDS[n - 4]);
            Check.is("at of all " + n, tower.at(1, all), all);
        }
    }

    private static void noPlaces() {
        BellfounderTower four = Towers.of(4);
        Check.is("next(1234, 0)", four.next(1234, 0), 2143);
        Check.is("change(0) of 4", four.change(0), 1);
        BellfounderTower six = Towers.of(6);
        Check.is("next(123456, 0)", six.next(123456, 0), 214365);
        Check.is("at(2, 0) of 6", six.at(2, 0), 63);
        for (int n : new int[] {5, 7}) {
            BellfounderTower odd = Towers.of(n);
            Check.is("isChange(0) of " + n, odd.isChange(0), false);
            Check.illegal("change(0) of " + n, odd, () -> odd.change(0));
            Check.illegal("at(1, 0) of " + n, odd, () -> odd.at(1, 0));
            Check.illegal("next(rounds, 0) of " + n, odd, () -> odd.next(Edges.ROUNDS[n - 4], 0));
        }
    }

    // ---- 2. the method

    private static void atMostFourteenChanges() {
        for (int n = 4; n <= 7; n++) {
            BellfounderTower tower = Towers.of(n);
            int all = (1 << n) - 1;
            for (int k = 1; k <= 14; k++) {
                Check.is("change number " + k + " of " + n, tower.change(all), k);
            }
            Check.state("the fifteenth of " + n, tower, () -> tower.change(all));
            Check.is("how many of " + n, tower.told(1), 14);
        }
    }

    private static void insteadOfTheLast() {
        BellfounderTower one = Towers.of(4, 0);
        one.at(1, 3);
        one.at(2, 12);
        Check.is("plain in a method of one", one.lead(1234, 0), 2143);
        Check.is("a bob in a method of one", one.lead(1234, 1), 1243);
        Check.is("a single in a method of one", one.lead(1234, 2), 2134);
        BellfounderTower full = Towers.of(4, 0, 0, 0, 0, 0, 0, 0, 0, 0, 0, 0, 0, 0, 0);
        full.at(1, 3);
        full.at(2, 12);
        Check.is("plain in a method of 14", full.lead(1234, 0), 1234);
        Check.is("a bob in a method of 14", full.lead(1234, 1), 2134);
        Check.is("a single in a method of 14", full.lead(1234, 2), 1243);
    }

    private static void methodAtFirst() {
        BellfounderTower tower = new BellfounderTower();
        Check.is("changes", tower.told(1), 0);
        Check.is("the bob", tower.told(2), 31);
        Check.is("the single", tower.told(3), 31);
        Check.index("changeAt(0)", tower, () -> tower.changeAt(0));
        Check.is("change(1)", tower.change(1), 1);
        Check.is("a bob of all places", tower.lead(12345, 1), 12345);
        Check.is("a single of all places", tower.lead(12345, 2), 12345);
    }

    private static void threeCalls() {
        BellfounderTower tower = Towers.huntOnFive();
        tower.at(1, 4);
        tower.at(2, 25);
        Check.is("call 0 is plain", tower.lead(12345, 0), 31524);
        Check.is("call 1 is the bob", tower.lead(12345, 1), 31245);
        Check.is("call 2 is the single", tower.lead(12345, 2), 12354);
        for (int call : Edges.NO_CALLS) {
            Check.illegal("call(" + call + ")", tower, () -> tower.call(call));
            Check.illegal("lead(12345, " + call + ")", tower, () -> tower.lead(12345, call));
        }
    }

    private static void asManyRowsAsChanges() {
        for (int changes = 0; changes <= 14; changes++) {
            BellfounderTower tower = Towers.of(7);
            for (int k = 0; k < changes; k++) {
                tower.change(k % 2 == 0 ? 64 : 1);
            }
            for (int call = 0; call <= 2; call++) {
                tower.call(call);
                Check.is(changes + " changes, leads: " + (call + 1), tower.touch(0), changes * (call + 1));
            }
        }
    }

    private static void rowAheadDoesNotCount() {
        BellfounderTower tower = Towers.of(4, 0);
        tower.call(0);
        Check.is("how many rows", tower.touch(0), 1);
        Check.is("row(0)", tower.row(0), 2143);
        Check.is("where(1234)", tower.where(1234), -1);
        tower.call(0);
        Check.is("where(1234) when it is rung", tower.where(1234), 1);
        Check.is("rounds ahead and at the end are not two", tower.touch(3), 1);
    }

    // ---- 3. calls

    private static void atMostTwentyFourCalls() {
        BellfounderTower tower = Towers.huntOnFive();
        for (int k = 1; k <= 24; k++) {
            tower.call(k % 3);
            Check.is("calls", tower.told(4), k);
        }
        for (int call = 0; call <= 2; call++) {
            int one = call;
            Check.state("call(" + call + ") as the 25th", tower, () -> tower.call(one));
        }
        Check.is("calls still", tower.told(4), 24);
        Check.is("rows still", tower.touch(0), 48);
        BellfounderTower silent = new BellfounderTower();
        for (int k = 0; k < 24; k++) {
            silent.call(2);
        }
        Check.state("a 25th without changes", silent, () -> silent.call(0));
    }

    private static void asTheyAreNow() {
        BellfounderTower tower = new BellfounderTower();
        tower.call(0);
        tower.call(1);
        tower.call(2);
        Check.is("without changes", tower.touch(0), 0);
        tower.change(1);
        Check.is("with a change: rows", tower.touch(0), 3);
        Check.is("with a change: end", tower.touch(1), 13254);
        tower.at(1, 16);
        Check.is("with another bob: end", tower.touch(1), 31524);
        tower.at(2, 1);
        Check.is("with another single: end", tower.touch(1), 35142);
        tower.change(31);
        Check.is("with two changes: rows", tower.touch(0), 6);
        tower.mirror();
        Check.is("mirrored: rows", tower.touch(0), 9);
        tower.unchange();
        tower.unchange();
        Check.each("with the first change again: touch", tower::touch, 3, 35142, 0, 1, -1);
        Check.is("where(31524)", tower.where(31524), 1);
        tower.unchange();
        Check.each("without changes again: touch", tower::touch, 0, 12345, 0, 1, -1, 0, 0, 0);
        Check.is("where(31524) without changes", tower.where(31524), -1);
    }

    private static void eachLeadFromTheOneAhead() {
        BellfounderTower tower = Towers.huntOnFive();
        int[] rows = {13254, 31524, 35142, 53412, 54321, 45231, 42513, 24153, 21435, 12345, 13254, 31524};
        Towers.laid(tower, new int[6]);
        for (int k = 0; k < rows.length; k++) {
            Check.is("row(" + k + ")", tower.row(k), rows[k]);
        }
    }

    private static void numberedFromNought() {
        BellfounderTower tower = Towers.huntOnFive();
        Towers.laid(tower, new int[5]);
        Check.is("row(0)", tower.row(0), 13254);
        Check.is("row(9)", tower.row(9), 12345);
        Check.index("row(-1)", tower, () -> tower.row(-1));
        Check.index("row(10)", tower, () -> tower.row(10));
        Check.is("where(13254)", tower.where(13254), 0);
        Check.is("where(12345)", tower.where(12345), 9);
    }

    private static void withoutCalls() {
        BellfounderTower tower = Towers.huntOnFive();
        Check.each("no call laid: touch", tower::touch, 0, 12345, 0, 1, -1, 0, 0, 0);
        tower.call(0);
        tower.uncall();
        Check.each("the call taken away: touch", tower::touch, 0, 12345, 0, 1, -1, 0, 0, 0);
        Check.index("row(0)", tower, () -> tower.row(0));
    }

    private static void withoutChanges() {
        BellfounderTower tower = new BellfounderTower();
        tower.at(1, 1);
        Check.is("call(1)", tower.call(1), 12345);
        Check.each("no change added: touch", tower::touch, 0, 12345, 0, 1, -1, 0, 0, 0);
        tower.change(1);
        tower.unchange();
        Check.each("the change taken away: touch", tower::touch, 0, 12345, 0, 1, -1, 0, 0, 0);
        Check.index("row(0)", tower, () -> tower.row(0));
    }

    private static void endIsTheLastRow() {
        BellfounderTower one = Towers.of(4, 0);
        one.call(0);
        Check.is("end of one row", one.touch(1), 2143);
        BellfounderTower full = Towers.of(7, 64, 1, 64, 1, 64, 1, 64, 1, 64, 1, 64, 1, 64, 4);
        int end = 1234567;
        for (int k = 0; k < 24; k++) {
            end = full.lead(end, k % 3);
            Check.is("call number " + (k + 1), full.call(k % 3), end);
        }
        Check.is("how many rows", full.touch(0), 336);
        Check.is("end of 336 rows", full.touch(1), end);
        Check.is("row(335)", full.row(335), end);
    }

    private static void noRowsDoNotComeRound() {
        BellfounderTower tower = Towers.of(4, 0);
        Check.is("without calls", tower.touch(2), 0);
        BellfounderTower silent = Towers.of(4);
        silent.call(0);
        Check.is("without changes", silent.touch(2), 0);
        silent.change(15);
        Check.is("with one row, which is rounds", silent.touch(2), 1);
    }

    private static void comesRoundAtItsEnd() {
        BellfounderTower tower = Towers.of(4, 0);
        int[] due = {0, 1, 0, 1};
        for (int k = 0; k < due.length; k++) {
            tower.call(0);
            Check.is("with leads: " + (k + 1), tower.touch(2), due[k]);
        }
        BellfounderTower passing = Towers.of(4, 15, 0);
        passing.call(0);
        Check.is("rounds within a lead", passing.touch(2), 0);
    }

    private static void noTwoTheSame() {
        BellfounderTower tower = Towers.plainBobMinimus();
        Check.is("without rows", tower.touch(3), 1);
        Towers.laid(tower, new int[3]);
        Check.each("all 24 rows of 4 bells: touch", tower::touch, 24, 1234, 1, 1, -1, 1, 28, 24);
        tower.change(9);
        Towers.laid(tower, new int[1]);
        Check.is("more rows than there are others", tower.touch(3), 0);
        BellfounderTower within = Towers.of(4, 0, 15);
        within.call(0);
        Check.each("the same row at once again: touch", within::touch, 2, 2143, 0, 0, 1, 2, 0, 1);
        BellfounderTower far = Towers.huntOnFive();
        Towers.laid(far, new int[5]);
        Check.is("ten other rows", far.touch(3), 1);
        far.call(1);
        Check.each("the eleventh is the first one: touch", far::touch, 12, 13254, 0, 0, 10, 2);
    }

    private static void partsTillRounds() {
        BellfounderTower four = Towers.of(4, 12, 9, 3);
        four.call(0);
        Check.is("all four bells going about: end", four.touch(1), 2341);
        Check.is("all four bells going about", four.touch(5), 4);
        BellfounderTower seven = Towers.of(7, 124, 121, 115, 103, 79, 31);
        seven.call(0);
        Check.is("all seven bells going about: end", seven.touch(1), 2345671);
        Check.is("all seven bells going about", seven.touch(5), 7);
        BellfounderTower ten = Towers.of(7, 124, 115, 103, 79, 31);
        ten.call(0);
        Check.is("two and five bells going about: end", ten.touch(1), 2145673);
        Check.is("two and five bells going about", ten.touch(5), 10);
        BellfounderTower twelve = Towers.of(7, 124, 121, 103, 79, 31);
        twelve.call(0);
        Check.is("three and four bells going about: end", twelve.touch(1), 2315674);
        Check.is("three and four bells going about", twelve.touch(5), 12);
        Towers.laid(twelve, new int[3]);
        Check.is("four calls at a time", twelve.touch(5), 3);
    }

    private static void onePartAtTheLeast() {
        BellfounderTower tower = Towers.of(4, 15);
        tower.call(0);
        Check.is("one row, which is rounds", tower.touch(5), 1);
        tower.call(1);
        Check.is("two rows, which are rounds", tower.touch(5), 1);
        Check.is("two rows and two parts", parts(Towers.of(4, 0), 1), 2);
        Check.is("four rows and one part", parts(Towers.of(4, 0), 2), 1);
    }

    private static int parts(BellfounderTower tower, int calls) {
        Towers.laid(tower, new int[calls]);
        return tower.touch(5);
    }

    private static void noPartsWithoutRows() {
        Check.is("without calls", Towers.of(4, 0).touch(5), 0);
        Check.is("without changes", parts(Towers.of(4), 3), 0);
        Check.is("without both", Towers.of(4).touch(5), 0);
    }

    // ---- 4. music

    private static void rowsMusic(int n, int[]... due) {
        BellfounderTower tower = Towers.of(n);
        for (int[] pair : due) {
            Check.is("music(" + pair[0] + ")", tower.music(pair[0]), pair[1]);
        }
    }

    private static void threeAtTheLeast() {
        rowsMusic(4, new int[][] {{1243, 0}, {2134, 0}, {3412, 0}, {2341, 3}, {4123, 3}, {3214, 3}, {1432, 3}});
        rowsMusic(5, new int[][] {{12435, 0}, {12354, 3}, {21345, 3}, {21354, 0}, {45123, 3}, {32154, 3}});
    }

    private static void notInTheMiddle() {
        rowsMusic(5, new int[][] {{52341, 0}, {14325, 0}, {12345, 10}});
        rowsMusic(7, new int[][] {{7234561, 0}, {1654327, 0}, {2345617, 5}, {7123456, 6}});
    }

    private static void noStepFromNToOne() {
        rowsMusic(5, new int[][] {{34512, 3}, {45123, 3}, {21543, 3}, {51234, 4}, {15432, 4}});
        rowsMusic(7, new int[][] {{6712345, 5}, {2176543, 5}, {5671234, 7}, {1357642, 0}, {2467531, 0}});
    }

    private static void longestAtTheBeginning() {
        rowsMusic(5, new int[][] {{13524, 0}, {12354, 3}, {12345, 10}, {23451, 4}, {43215, 4}, {43251, 3}});
        rowsMusic(7, new int[][] {{1237564, 3}, {1234756, 4}, {1234576, 5}, {1234567, 14}, {2345671, 6}, {6543217, 6}});
    }

    private static void longestAtTheEnd() {
        rowsMusic(5, new int[][] {{41235, 0}, {54123, 3}, {51234, 4}, {14532, 0}, {15432, 4}, {51432, 3}});
        rowsMusic(7, new int[][] {{4132567, 3}, {2134567, 5}, {3124567, 4}, {1765432, 6}, {7123456, 6}, {3217654, 7}});
    }

    private static void allOfTheRow() {
        for (int n = 4; n <= 7; n++) {
            rowsMusic(n, new int[][] {{Edges.ROUNDS[n - 4], 2 * n}, {Edges.BACKWARDS[n - 4], 2 * n}});
        }
    }

    private static void musicTogether() {
        BellfounderTower tower = Towers.of(7);
        Check.is("without rows", tower.touch(6), 0);
        for (int k = 0; k < 14; k++) {
            tower.change(127);
        }
        Towers.laid(tower, new int[24]);
        Check.is("336 rows of rounds", tower.touch(6), 336 * 14);
        BellfounderTower none = Towers.of(4, 0);
        none.call(0);
        Check.is("a row without music", none.touch(6), 0);
        none.call(0);
        Check.is("and one with music", none.touch(6), 8);
    }

    // ---- 5. searching

    private static void oneToFiveLeads() {
        BellfounderTower rounds = Towers.of(4, 15);
        Check.is("none of no leads", rounds.good(0), 0);
        Check.is("those of one lead", rounds.good(1), 3);
        BellfounderTower five = Towers.huntOnFive();
        int[] due = {0, 0, 0, 0, 0, 1};
        for (int k = 0; k <= 5; k++) {
            Check.is("plain hunt on five, good(" + k + ")", five.good(k), due[k]);
        }
        BellfounderTower six = Towers.of(6, 0, 33);
        Check.is("six leads of plain hunt on six are not looked at", six.good(5), 0);
        Towers.laid(six, new int[6]);
        Check.each("though they would be good: touch", six::touch, 12, 123456, 1, 1);
        for (int k : Edges.NO_LEADS) {
            Check.illegal("good(" + k + ")", rounds, () -> rounds.good(k));
        }
    }

    /** With x alone two plain leads have the music of rounds, as a bob of all places has alone. */
    private static void fewerLeadsFirst() {
        BellfounderTower tower = Towers.of(4, 0);
        Check.is("best(2)", tower.best(2), 8);
        Check.is("the bob alone ahead of two plain leads", tower.bestCall(2, 0), 1);
        Check.index("and it has no second lead", tower, () -> tower.bestCall(2, 1));
        tower.at(1, 0);
        tower.at(2, 0);
        Check.is("without those of one lead", tower.bestCall(2, 0), 0);
        Check.is("it has a second lead", tower.bestCall(2, 1), 0);
    }

    /** 21345 has music, 21435 has none: so two bobs or singles, in any order, are the best. */
    private static void smallerCallFirst() {
        BellfounderTower tower = Towers.of(5, 16);
        tower.at(1, 28);
        tower.at(2, 28);
        Check.is("good(2)", tower.good(2), 5);
        Check.is("best(2)", tower.best(2), 13);
        Check.is("the first call", tower.bestCall(2, 0), 1);
        Check.is("the second call", tower.bestCall(2, 1), 1);
        tower.at(1, 16);
        Check.is("two singles alone are the best", tower.bestCall(2, 0), 2);
        Check.is("both of them", tower.bestCall(2, 1), 2);
    }

    private static void othersByTheirCalls() {
        BellfounderTower tower = Towers.of(4, 0);
        tower.at(1, 0);
        tower.at(2, 0);
        Check.is("nine touches with the same two rows", tower.good(2), 9);
        tower.at(2, 15);
        Check.is("four of two leads, and one of one", tower.good(2), 5);
        BellfounderTower rounds = Towers.of(4, 15);
        Check.is("three touches with the same row", rounds.good(1), 3);
    }

    private static void goodIsTrue() {
        BellfounderTower twice = Towers.of(4, 15, 15);
        Check.is("rounds twice in each lead", twice.good(5), 0);
        Check.is("no best one", twice.best(5), -1);
        BellfounderTower bob = Towers.of(4, 0, 0, 0);
        bob.at(1, 15);
        bob.call(0);
        bob.call(0);
        Check.each("it comes round, but is false: touch", bob::touch, 6, 1234, 1, 0);
        Check.is("so it is not good", bob.good(2), 0);
    }

    private static void goodComesRound() {
        BellfounderTower tower = Towers.of(4, 0);
        tower.at(1, 0);
        tower.at(2, 0);
        Check.is("one lead is true, but does not come round", tower.good(1), 0);
        Check.is("its music does not count", tower.best(1), -1);
        BellfounderTower passing = Towers.of(4, 15, 0);
        Check.is("rounds within a lead are not enough", passing.good(1), 0);
    }

    private static void notAlreadyWithFewer() {
        BellfounderTower tower = Towers.of(4, 0);
        tower.at(1, 0);
        tower.at(2, 0);
        for (int k = 2; k <= 5; k++) {
            Check.is("all come round with two leads: good(" + k + ")", tower.good(k), 9);
            Check.is("best(" + k + ")", tower.best(k), 8);
        }
        BellfounderTower rounds = Towers.of(4, 15);
        Check.is("all come round with one lead", rounds.good(5), 3);
    }
}
