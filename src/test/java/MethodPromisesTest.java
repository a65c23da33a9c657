/** Promises 1 to 12: the tower and the method, with answers worked out by hand. */
public final class MethodPromisesTest {
    private static final Class<?> ILLEGAL = IllegalArgumentException.class;
    private static final Class<?> STATE = IllegalStateException.class;
    private static final Class<?> INDEX = IndexOutOfBoundsException.class;

    public static void main(String[] args) {
        newObject();
        begin();
        beginEmptiesAll();
        change();
        changeUpToFourteen();
        mirror();
        unchange();
        at();
        isChange();
        told();
        changeAt();
        next();
        lead();
        crossed();
        Check.end("MethodPromisesTest");
    }

    private static void newObject() {
        BellfounderTower tower = new BellfounderTower();
        Check.each("new: told", tower::told, 5, 0, 31, 31, 0, 5);
        Check.is("new: touch(0)", tower.touch(0), 0);
        Check.is("new: touch(1)", tower.touch(1), 12345);
        Check.is("new: digest", tower.digest(), -1842964189053871377L);
    }

    private static void begin() {
        int[] rounds = {1234, 12345, 123456, 1234567};
        int[] allPlaces = {15, 31, 63, 127};
        BellfounderTower tower = new BellfounderTower();
        for (int n = 4; n <= 7; n++) {
            Check.is("begin(" + n + ")", tower.begin(n), rounds[n - 4]);
            Check.each("begin(" + n + "): told", tower::told, n, 0, allPlaces[n - 4], allPlaces[n - 4], 0, n);
        }
        BellfounderTower full = Towers.plainBobMinimus();
        full.call(0);
        for (int n : new int[] {3, 8, 0, -1, -4, Edges.LOWEST, Edges.HIGHEST}) {
            Check.refused("begin(" + n + ")", full, ILLEGAL, () -> full.begin(n));
        }
    }

    private static void beginEmptiesAll() {
        BellfounderTower tower = Towers.plainBobMinimus();
        tower.at(2, 0);
        tower.call(0);
        tower.call(1);
        Check.is("begin(4) with other bells before", tower.begin(4), 1234);
        Check.each("begin(4): told", tower::told, 4, 0, 15, 15, 0, 4);
        Check.is("begin empties the touch", tower.touch(0), 0);
        Check.is("begin empties the different rows", tower.touch(7), 0);
        Check.is("begin forgets rows", tower.where(1342), -1);
        tower.change(0);
        Check.is("no calls stay behind begin", tower.touch(0), 0);
    }

    private static void change() {
        BellfounderTower tower = new BellfounderTower();
        Check.is("change(1)", tower.change(1), 1);
        Check.is("change(31)", tower.change(31), 2);
        for (int set : new int[] {0, 2, 32, 33, -1, 8, Edges.LOWEST, Edges.HIGHEST}) {
            Check.refused("change(" + set + ")", tower, ILLEGAL, () -> tower.change(set));
        }
        tower.begin(6);
        Check.is("change(0) of 6 bells", tower.change(0), 1);
    }

    private static void changeUpToFourteen() {
        BellfounderTower tower = new BellfounderTower();
        for (int k = 1; k <= 14; k++) {
            Check.is("change number " + k, tower.change(k % 2 == 0 ? 1 : 16), k);
        }
        Check.refused("a fifteenth change", tower, STATE, () -> tower.change(1));
        Check.refused("no change as a fifteenth", tower, ILLEGAL, () -> tower.change(2));
        tower.unchange();
        Check.is("the fourteenth once more", tower.change(4), 14);
    }

    private static void mirror() {
        BellfounderTower tower = new BellfounderTower();
        Check.refused("mirror() of none", tower, STATE, tower::mirror);
        tower.change(1);
        Check.is("mirror() of one", tower.mirror(), 1);
        tower.change(16);
        tower.change(4);
        Check.is("mirror() of three", tower.mirror(), 5);
        int[] due = {1, 16, 4, 16, 1};
        for (int k = 0; k < due.length; k++) {
            Check.is("mirrored " + k, tower.changeAt(k), due[k]);
        }
        tower.change(31);
        tower.change(7);
        Check.is("mirror() of seven", tower.mirror(), 13);
        Check.is("the last mirrored", tower.changeAt(12), 1);
        Check.is("the first mirrored", tower.changeAt(7), 31);
        Check.refused("mirror() of 13", tower, STATE, tower::mirror);
        while (tower.told(1) > 8) {
            tower.unchange();
        }
        Check.refused("mirror() of eight", tower, STATE, tower::mirror);
        tower.call(0);
        tower.unchange();
        tower.mirror();
        Check.is("mirror() rings the calls anew", tower.touch(0), 13);
    }

    private static void unchange() {
        BellfounderTower tower = new BellfounderTower();
        Check.refused("unchange() of none", tower, STATE, tower::unchange);
        tower.change(1);
        tower.change(16);
        tower.call(0);
        Check.is("rows before unchange()", tower.touch(0), 2);
        Check.is("unchange()", tower.unchange(), 16);
        Check.is("rows behind unchange()", tower.touch(0), 1);
        Check.is("unchange() again", tower.unchange(), 1);
        Check.is("all taken", tower.told(1), 0);
        Check.refused("unchange() of none again", tower, STATE, tower::unchange);
    }

    private static void at() {
        BellfounderTower tower = new BellfounderTower();
        Check.is("at(1, 1)", tower.at(1, 1), 31);
        Check.is("at(2, 16)", tower.at(2, 16), 31);
        Check.is("at(1, 4)", tower.at(1, 4), 1);
        Check.is("at(2, 7)", tower.at(2, 7), 16);
        Check.each("at: told", tower::told, 5, 0, 4, 7);
        for (int call : new int[] {0, 3, -1, Edges.LOWEST, Edges.HIGHEST}) {
            Check.refused("at(" + call + ", 1)", tower, ILLEGAL, () -> tower.at(call, 1));
        }
        for (int set : new int[] {0, 2, 32, -1, Edges.LOWEST, Edges.HIGHEST}) {
            Check.refused("at(1, " + set + ")", tower, ILLEGAL, () -> tower.at(1, set));
            Check.refused("at(2, " + set + ")", tower, ILLEGAL, () -> tower.at(2, set));
        }
        BellfounderTower rung = Towers.plainBobMinimus();
        rung.call(1);
        rung.at(1, 15);
        Check.is("at() rings the calls anew", rung.touch(1), 1324);
    }

    private static void isChange() {
        BellfounderTower tower = new BellfounderTower();
        int[][] changes = {
            {0, 3, 9, 12, 15},
            {1, 4, 7, 16, 19, 25, 28, 31},
        };
        for (int n = 4; n <= 5; n++) {
            tower.begin(n);
            for (int set = -2; set <= 1 << (n + 1); set++) {
                boolean due = false;
                for (int change : changes[n - 4]) {
                    due |= change == set;
                }
                Check.is(n + " bells: isChange(" + set + ")", tower.isChange(set), due);
            }
            Check.is("isChange(lowest)", tower.isChange(Edges.LOWEST), false);
            Check.is("isChange(highest)", tower.isChange(Edges.HIGHEST), false);
        }
        int[] counts = {5, 8, 13, 21};
        for (int n = 4; n <= 7; n++) {
            BellfounderTower other = Towers.of(n);
            int count = 0;
            for (int set = 0; set < 256; set++) {
                count += other.isChange(set) ? 1 : 0;
            }
            Check.is("changes of " + n + " bells", count, counts[n - 4]);
        }
    }

    private static void told() {
        BellfounderTower tower = Towers.plainBobMinimus();
        Check.each("plain bob: told", tower::told, 4, 8, 9, 15, 0, 1);
        tower.call(2);
        tower.call(0);
        Check.each("plain bob with calls: told", tower::told, 4, 8, 9, 15, 2, 1);
        tower.at(1, 3);
        tower.at(2, 3);
        Check.each("all calls alike: told", tower::told, 4, 8, 3, 3, 2, 1);
        for (int what : new int[] {-1, 6, Edges.LOWEST, Edges.HIGHEST}) {
            Check.refused("told(" + what + ")", tower, ILLEGAL, () -> tower.told(what));
        }
        BellfounderTower five = new BellfounderTower();
        five.change(7);
        Check.is("hunt bells of 123 and two calls of all", five.told(5), 3);
        five.at(1, 25);
        Check.is("hunt bells with a bob of 145", five.told(5), 1);
        five.at(2, 16);
        Check.is("hunt bells with a single of 5", five.told(5), 0);
    }

    private static void changeAt() {
        BellfounderTower tower = new BellfounderTower();
        Check.refused("changeAt(0) of none", tower, INDEX, () -> tower.changeAt(0));
        tower.change(1);
        tower.change(16);
        tower.change(4);
        tower.unchange();
        Check.is("changeAt(0)", tower.changeAt(0), 1);
        Check.is("changeAt(1)", tower.changeAt(1), 16);
        for (int k : new int[] {-1, 2, 14, Edges.LOWEST, Edges.HIGHEST}) {
            Check.refused("changeAt(" + k + ")", tower, INDEX, () -> tower.changeAt(k));
        }
    }

    private static void next() {
        BellfounderTower tower = new BellfounderTower();
        Check.is("next(12345, 1)", tower.next(12345, 1), 13254);
        Check.is("next(12345, 16)", tower.next(12345, 16), 21435);
        Check.is("next(53124, 4)", tower.next(53124, 4), 35142);
        Check.is("next(53124, 31)", tower.next(53124, 31), 53124);
        Check.is("next(53124, 19)", tower.next(53124, 19), 53214);
        for (int row : new int[] {12344, 12340, 12346, 1234, 123456, 112345, 0, -12345, Edges.LOWEST, Edges.HIGHEST}) {
            Check.refused("next(" + row + ", 1)", tower, ILLEGAL, () -> tower.next(row, 1));
        }
        for (int set : new int[] {0, 2, 32, -1, Edges.LOWEST, Edges.HIGHEST}) {
            Check.refused("next(12345, " + set + ")", tower, ILLEGAL, () -> tower.next(12345, set));
        }
        tower.begin(4);
        Check.is("next(4213, 0)", tower.next(4213, 0), 2431);
        Check.is("next(4213, 9)", tower.next(4213, 9), 4123);
        Check.refused("next(12345, 0) of four", tower, ILLEGAL, () -> tower.next(12345, 0));
        tower.begin(7);
        Check.is("next(7654321, 64)", tower.next(7654321, 64), 6745231);
        Check.is("next(7654321, 1)", tower.next(7654321, 1), 7563412);
        Check.refused("next(1234568, 1)", tower, ILLEGAL, () -> tower.next(1234568, 1));
    }

    private static void lead() {
        BellfounderTower tower = Towers.plainBobMinimus();
        Check.is("lead(1234, 0)", tower.lead(1234, 0), 1342);
        Check.is("lead(1234, 1)", tower.lead(1234, 1), 1234);
        Check.is("lead(1234, 2)", tower.lead(1234, 2), 1324);
        Check.is("lead(4321, 0)", tower.lead(4321, 0), 4213);
        Check.is("lead(4321, 2)", tower.lead(4321, 2), 4231);
        for (int call : new int[] {-1, 3, Edges.LOWEST, Edges.HIGHEST}) {
            Check.refused("lead(1234, " + call + ")", tower, ILLEGAL, () -> tower.lead(1234, call));
        }
        for (int row : new int[] {1233, 1235, 123, 12345, 11234, 0, -1234, Edges.LOWEST, Edges.HIGHEST}) {
            Check.refused("lead(" + row + ", 0)", tower, ILLEGAL, () -> tower.lead(row, 0));
        }
        BellfounderTower empty = new BellfounderTower();
        empty.at(1, 1);
        for (int call = 0; call <= 2; call++) {
            Check.is("lead(54321, " + call + ") without changes", empty.lead(54321, call), 54321);
        }
        Check.refused("lead(54321, 3) without changes", empty, ILLEGAL, () -> empty.lead(54321, 3));
        empty.change(16);
        Check.is("a bob in place of the only change", empty.lead(12345, 1), 13254);
        empty.mirror();
        empty.change(4);
        Check.is("a bob in place of the last change alone", empty.lead(12345, 1), 24153);
    }

    private static void crossed() {
        BellfounderTower tower = new BellfounderTower();
        Check.is("crossed(12345)", tower.crossed(12345), 0);
        Check.is("crossed(54321)", tower.crossed(54321), 10);
        Check.is("crossed(21345)", tower.crossed(21345), 1);
        Check.is("crossed(51234)", tower.crossed(51234), 4);
        Check.is("crossed(31524)", tower.crossed(31524), 4);
        for (int row : new int[] {11345, 12340, 1234, 123456, 112345, 0, -12345, Edges.LOWEST, Edges.HIGHEST}) {
            Check.refused("crossed(" + row + ")", tower, ILLEGAL, () -> tower.crossed(row));
        }
        tower.begin(7);
        Check.is("crossed(7654321)", tower.crossed(7654321), 21);
    }
}
