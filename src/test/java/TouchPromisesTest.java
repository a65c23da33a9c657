/** Promises 13 to 23: the calls and the touch, with answers worked out by hand. */
public final class TouchPromisesTest {
    private static final Class<?> ILLEGAL = IllegalArgumentException.class;
    private static final Class<?> STATE = IllegalStateException.class;
    private static final Class<?> INDEX = IndexOutOfBoundsException.class;
    /** The rows of a plain lead of plain bob on four bells; with a bob the last one is 1234. */
    private static final int[] PLAIN_LEAD = {2143, 2413, 4231, 4321, 3412, 3142, 1324, 1342};

    public static void main(String[] args) {
        call();
        uncall();
        callAt();
        touchWithoutRows();
        touchOfPlainBob();
        touchThatIsFalse();
        parts();
        row();
        where();
        place();
        longest();
        music();
        common();
        meanPlace();
        plainHuntOnSeven();
        Check.end("TouchPromisesTest");
    }

    private static BellfounderTower plainCourse() {
        BellfounderTower tower = Towers.plainBobMinimus();
        tower.call(0);
        tower.call(0);
        tower.call(0);
        return tower;
    }

    private static void call() {
        BellfounderTower tower = Towers.plainBobMinimus();
        Check.is("call(0)", tower.call(0), 1342);
        Check.is("call(0) again", tower.call(0), 1423);
        Check.is("call(1)", tower.call(1), 1423);
        Check.is("call(2)", tower.call(2), 1243);
        Check.is("how many", tower.told(4), 4);
        for (int call : new int[] {-1, 3, Edges.LOWEST, Edges.HIGHEST}) {
            Check.refused("call(" + call + ")", tower, ILLEGAL, () -> tower.call(call));
        }
        for (int k = 5; k <= 24; k++) {
            Check.is("call number " + k, tower.call(1), 1243);
        }
        Check.is("24 calls", tower.told(4), 24);
        Check.is("rows of 24 calls", tower.touch(0), 192);
        Check.refused("a 25th call", tower, STATE, () -> tower.call(0));
        Check.refused("no call as a 25th", tower, ILLEGAL, () -> tower.call(3));
        BellfounderTower empty = new BellfounderTower();
        Check.is("call(2) without changes", empty.call(2), 12345);
        Check.is("it is laid all the same", empty.told(4), 1);
        empty.change(1);
        Check.is("and is rung with changes", empty.touch(0), 1);
    }

    private static void uncall() {
        BellfounderTower tower = Towers.plainBobMinimus();
        Check.refused("uncall() of none", tower, STATE, tower::uncall);
        tower.call(0);
        tower.call(2);
        tower.call(1);
        Check.is("uncall()", tower.uncall(), 1);
        Check.is("uncall() again", tower.uncall(), 2);
        Check.each("one call left: touch", tower::touch, 8, 1342, 0, 1, -1, 3, 8, 8);
        Check.is("uncall() of the last", tower.uncall(), 0);
        Check.refused("uncall() of none left", tower, STATE, tower::uncall);
        Check.is("rows are gone", tower.where(1342), -1);
        BellfounderTower empty = new BellfounderTower();
        empty.call(2);
        Check.is("uncall() without changes", empty.uncall(), 2);
    }

    private static void callAt() {
        BellfounderTower tower = Towers.plainBobMinimus();
        Check.refused("callAt(0) of none", tower, INDEX, () -> tower.callAt(0));
        tower.call(2);
        tower.call(0);
        tower.call(1);
        Check.is("callAt(0)", tower.callAt(0), 2);
        Check.is("callAt(1)", tower.callAt(1), 0);
        Check.is("callAt(2)", tower.callAt(2), 1);
        for (int k : new int[] {-1, 3, 24, Edges.LOWEST, Edges.HIGHEST}) {
            Check.refused("callAt(" + k + ")", tower, INDEX, () -> tower.callAt(k));
        }
    }

    private static void touchWithoutRows() {
        BellfounderTower tower = new BellfounderTower();
        Check.each("without calls and changes: touch", tower::touch, 0, 12345, 0, 1, -1, 0, 0, 0);
        tower.call(1);
        Check.each("without changes: touch", tower::touch, 0, 12345, 0, 1, -1, 0, 0, 0);
        tower.uncall();
        tower.change(1);
        Check.each("without calls: touch", tower::touch, 0, 12345, 0, 1, -1, 0, 0, 0);
        for (int what : new int[] {-1, 8, Edges.LOWEST, Edges.HIGHEST}) {
            Check.refused("touch(" + what + ")", tower, ILLEGAL, () -> tower.touch(what));
        }
    }

    private static void touchOfPlainBob() {
        Check.each("plain course: touch", plainCourse()::touch, 24, 1234, 1, 1, -1, 1, 28, 24);
        BellfounderTower one = Towers.plainBobMinimus();
        one.call(0);
        Check.each("plain lead: touch", one::touch, 8, 1342, 0, 1, -1, 3, 8, 8);
        one.uncall();
        one.call(1);
        Check.each("bob lead: touch", one::touch, 8, 1234, 1, 1, -1, 1, 16, 8);
        one.uncall();
        one.call(2);
        Check.each("single lead: touch", one::touch, 8, 1324, 0, 0, 7, 2, 8, 7);
    }

    private static void touchThatIsFalse() {
        BellfounderTower tower = plainCourse();
        tower.call(1);
        Check.each("a course and a bob: touch", tower::touch, 32, 1234, 1, 0, 24, 1, 44, 24);
        tower.uncall();
        Check.each("the course again: touch", tower::touch, 24, 1234, 1, 1, -1, 1, 28, 24);
        tower.call(0);
        tower.call(0);
        Check.is("the first row of many that come again", tower.touch(4), 24);
        tower.uncall();
        Check.is("the same with a lead less", tower.touch(4), 24);
        BellfounderTower all = new BellfounderTower();
        all.change(31);
        all.change(31);
        all.call(0);
        Check.each("rounds twice: touch", all::touch, 2, 12345, 1, 0, 1, 1, 20, 1);
        all.unchange();
        Check.each("rounds once: touch", all::touch, 1, 12345, 1, 1, -1, 1, 10, 1);
    }

    /** The parts by the end of the touch: 231 at the front takes three, and two more bells crossed six. */
    private static void parts() {
        BellfounderTower tower = new BellfounderTower();
        tower.change(25);
        tower.change(28);
        tower.call(0);
        Check.is("end of 145 and 345", tower.touch(1), 31245);
        Check.is("parts of 31245", tower.touch(5), 3);
        tower.at(2, 4);
        Check.is("the single crosses 4 and 5 too", tower.lead(12345, 2), 31254);
        tower.uncall();
        tower.call(2);
        Check.is("parts of 31254", tower.touch(5), 6);
        tower.begin(7);
        int[] changes = {121, 124, 103, 79, 31};
        for (int change : changes) {
            tower.change(change);
        }
        tower.call(0);
        Check.is("end with 3 and 4 bells going about", tower.touch(1), 3125674);
        Check.is("parts of that", tower.touch(5), 12);
    }

    private static void row() {
        BellfounderTower tower = Towers.plainBobMinimus();
        Check.refused("row(0) of none", tower, INDEX, () -> tower.row(0));
        tower.call(0);
        for (int k = 0; k < 8; k++) {
            Check.is("row(" + k + ")", tower.row(k), PLAIN_LEAD[k]);
        }
        for (int k : new int[] {-1, 8, Edges.LOWEST, Edges.HIGHEST}) {
            Check.refused("row(" + k + ")", tower, INDEX, () -> tower.row(k));
        }
        tower.call(1);
        Check.is("row(8)", tower.row(8), 3124);
        Check.is("row(15)", tower.row(15), 1342);
        tower.at(2, 9);
        tower.unchange();
        Check.is("row(7) with a change less", tower.row(7), 3142);
        Check.is("row(13) with a change less, and a bob", tower.row(13), 2413);
    }

    private static void where() {
        BellfounderTower tower = Towers.plainBobMinimus();
        Check.is("where(1234) without rows", tower.where(1234), -1);
        tower.call(0);
        for (int k = 0; k < 8; k++) {
            Check.is("where(" + PLAIN_LEAD[k] + ")", tower.where(PLAIN_LEAD[k]), k);
        }
        Check.is("where(1234): the rounds ahead do not count", tower.where(1234), -1);
        tower.call(2);
        tower.uncall();
        tower.call(1);
        tower.call(0);
        Check.is("where(1342), rung twice", tower.where(1342), 7);
        for (int row : new int[] {1233, 1235, 123, 12345, 11234, 0, -1234, Edges.LOWEST, Edges.HIGHEST}) {
            Check.refused("where(" + row + ")", tower, ILLEGAL, () -> tower.where(row));
        }
    }

    private static void place() {
        BellfounderTower tower = Towers.plainBobMinimus();
        Check.refused("place(1, 0) of none", tower, INDEX, () -> tower.place(1, 0));
        tower.call(0);
        Check.is("place(1, 0)", tower.place(1, 0), 2);
        Check.is("place(4, 0)", tower.place(4, 0), 3);
        Check.is("place(2, 7)", tower.place(2, 7), 4);
        Check.is("place(1, 7)", tower.place(1, 7), 1);
        for (int bell : new int[] {0, 5, -1, Edges.LOWEST, Edges.HIGHEST}) {
            Check.refused("place(" + bell + ", 0)", tower, INDEX, () -> tower.place(bell, 0));
        }
        for (int k : new int[] {-1, 8, Edges.LOWEST, Edges.HIGHEST}) {
            Check.refused("place(1, " + k + ")", tower, INDEX, () -> tower.place(1, k));
        }
    }

    private static void longest() {
        BellfounderTower tower = Towers.plainBobMinimus();
        Check.is("longest(1) without rows", tower.longest(1), 0);
        tower.call(0);
        int[] due = {2, 2, 2, 2};
        for (int bell = 1; bell <= 4; bell++) {
            Check.is("longest(" + bell + ")", tower.longest(bell), due[bell - 1]);
        }
        for (int bell : new int[] {0, 5, -1, Edges.LOWEST, Edges.HIGHEST}) {
            Check.refused("longest(" + bell + ")", tower, INDEX, () -> tower.longest(bell));
        }
        BellfounderTower five = new BellfounderTower();
        five.change(7);
        five.change(25);
        five.call(0);
        five.call(0);
        Check.is("longest(1) over the leads", five.longest(1), 4);
        Check.is("longest(2): not with rounds ahead", five.longest(2), 2);
        Check.is("longest(5)", five.longest(5), 2);
        Check.is("longest(3)", five.longest(3), 2);
        five.call(1);
        Check.is("longest(4): a bob of all places lengthens it", five.longest(4), 2);
        five.call(1);
        Check.is("longest(2) with two bobs", five.longest(2), 5);
    }

    private static void music() {
        BellfounderTower tower = new BellfounderTower();
        int[][] due = {
            {12345, 10}, {54321, 10}, {32145, 3}, {21543, 3}, {13524, 0}, {12354, 3}, {51234, 4},
            {43215, 4}, {21345, 3}, {23451, 4}, {54312, 3}, {15432, 4}, {12543, 3}, {21435, 0},
            {35142, 0}, {34521, 3}, {14523, 0}, {24135, 0}, {41235, 0}, {45312, 0},
        };
        for (int[] pair : due) {
            Check.is("music(" + pair[0] + ")", tower.music(pair[0]), pair[1]);
        }
        for (int row : new int[] {55555, 12340, 1234, 123456, 112345, 0, -12345, Edges.LOWEST, Edges.HIGHEST}) {
            Check.refused("music(" + row + ")", tower, ILLEGAL, () -> tower.music(row));
        }
        tower.begin(6);
        Check.is("music(123654)", tower.music(123654), 6);
        Check.is("music(321456)", tower.music(321456), 6);
        Check.is("music(432165)", tower.music(432165), 4);
        tower.begin(7);
        Check.is("music(3456721)", tower.music(3456721), 5);
        Check.is("music(4321567)", tower.music(4321567), 7);
        Check.is("music(7654321)", tower.music(7654321), 14);
        tower.begin(4);
        Check.is("music(1234)", tower.music(1234), 8);
        Check.is("music(1432)", tower.music(1432), 3);
        Check.is("music(2134)", tower.music(2134), 0);
    }

    private static void common() {
        BellfounderTower tower = Towers.plainBobMinimus();
        Check.refused("common(0, 0) of none", tower, INDEX, () -> tower.common(0, 0));
        tower.call(1);
        tower.call(0);
        tower.call(0);
        tower.call(2);
        Check.is("common(0, 0)", tower.common(0, 0), 8);
        Check.is("common(0, 1)", tower.common(0, 1), 7);
        Check.is("common(1, 0)", tower.common(1, 0), 7);
        Check.is("common(1, 2)", tower.common(1, 2), 0);
        Check.is("common(3, 3): 1324 as the last one comes twice", tower.common(3, 3), 7);
        for (int k : new int[] {-1, 4, Edges.LOWEST, Edges.HIGHEST}) {
            Check.refused("common(" + k + ", 0)", tower, INDEX, () -> tower.common(k, 0));
            Check.refused("common(0, " + k + ")", tower, INDEX, () -> tower.common(0, k));
        }
        BellfounderTower empty = new BellfounderTower();
        empty.call(0);
        Check.is("common(0, 0) without changes", empty.common(0, 0), 0);
        empty.change(31);
        empty.change(31);
        empty.call(1);
        Check.is("common(0, 1) of rounds alone", empty.common(0, 1), 1);
    }

    private static void meanPlace() {
        BellfounderTower tower = Towers.plainBobMinimus();
        Check.is("meanPlace() without rows", tower.meanPlace(), 0.0);
        tower.call(0);
        Check.is("meanPlace() of a plain lead", tower.meanPlace(), (3 + 2 + 1 + 1 + 2 + 3 + 4 + 3) / 8.0);
        BellfounderTower five = new BellfounderTower();
        five.change(16);
        five.change(1);
        five.change(1);
        five.call(0);
        Check.is("meanPlace() not cut", five.meanPlace(), 14.0 / 3.0);
        five.unchange();
        five.unchange();
        Check.is("meanPlace() of one row", five.meanPlace(), 5.0);
    }

    /** All 14 changes, and rows that are the last ones of all: half way 7654321 comes. */
    private static void plainHuntOnSeven() {
        BellfounderTower tower = Towers.huntOnSeven(0);
        tower.at(1, 7);
        Check.each("plain hunt on seven: touch", tower::touch, 14, 1234567, 1, 1, -1, 1, 28, 14);
        Check.is("where(7654321)", tower.where(7654321), 6);
        Check.is("where(7564231)", tower.where(7564231), -1);
        Check.is("place(7, 6)", tower.place(7, 6), 1);
        Check.is("meanPlace() on seven", tower.meanPlace(), 4.0);
        Check.is("call(1)", tower.call(1), 1324567);
        Check.each("with a bob: touch", tower::touch, 28, 1324567, 0, 0, 14, 2, 46, 15);
        for (int k = 3; k <= 24; k++) {
            tower.call(k % 2);
        }
        Check.is("rows with 24 calls", tower.touch(0), 336);
        Check.is("the last row", tower.row(335), tower.touch(1));
        Check.refused("row(336)", tower, INDEX, () -> tower.row(336));
    }
}
