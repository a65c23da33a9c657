/** Promises 24 to 29: what would be, with answers worked out by hand. */
public final class SearchPromisesTest {
    private static final Class<?> ILLEGAL = IllegalArgumentException.class;
    private static final Class<?> INDEX = IndexOutOfBoundsException.class;

    public static void main(String[] args) {
        good();
        best();
        bestCall();
        firstOfTheBest();
        fewerLeadsFirst();
        endWith();
        clashes();
        nothingIsChanged();
        digest();
        Check.end("SearchPromisesTest");
    }

    private static void good() {
        BellfounderTower tower = Towers.plainBobMinimus();
        int[] due = {0, 1, 1, 2, 2, 2};
        for (int k = 0; k <= 5; k++) {
            Check.is("good(" + k + ")", tower.good(k), due[k]);
        }
        for (int k : new int[] {-1, 6, Edges.LOWEST, Edges.HIGHEST}) {
            Check.refused("good(" + k + ")", tower, ILLEGAL, () -> tower.good(k));
        }
        tower.at(1, 3);
        tower.at(2, 3);
        int[] alike = {0, 0, 0, 27, 27, 27};
        for (int k = 0; k <= 5; k++) {
            Check.is("good(" + k + ") with all calls alike", tower.good(k), alike[k]);
        }
        Check.is("good(5) without changes", new BellfounderTower().good(5), 0);
        BellfounderTower five = new BellfounderTower();
        five.change(1);
        five.change(16);
        Check.is("plain hunt comes round with its fifth lead", five.good(5), 1);
        Check.is("and not with the fourth", five.good(4), 0);
    }

    private static void best() {
        BellfounderTower tower = Towers.plainBobMinimus();
        int[] due = {-1, 16, 16, 28, 28, 28};
        for (int k = 0; k <= 5; k++) {
            Check.is("best(" + k + ")", tower.best(k), due[k]);
        }
        for (int k : new int[] {-1, 6, Edges.LOWEST, Edges.HIGHEST}) {
            Check.refused("best(" + k + ")", tower, ILLEGAL, () -> tower.best(k));
        }
        Check.is("best(5) without changes", new BellfounderTower().best(5), -1);
    }

    private static void bestCall() {
        BellfounderTower tower = Towers.plainBobMinimus();
        Check.is("bestCall(1, 0)", tower.bestCall(1, 0), 1);
        Check.is("bestCall(2, 0)", tower.bestCall(2, 0), 1);
        for (int place = 0; place < 3; place++) {
            Check.is("bestCall(3, " + place + ")", tower.bestCall(3, place), 0);
            Check.is("bestCall(5, " + place + ")", tower.bestCall(5, place), 0);
        }
        Check.refused("bestCall(0, 0)", tower, INDEX, () -> tower.bestCall(0, 0));
        Check.refused("bestCall(2, 1)", tower, INDEX, () -> tower.bestCall(2, 1));
        for (int place : new int[] {-1, 3, 4, 5, Edges.LOWEST, Edges.HIGHEST}) {
            Check.refused("bestCall(5, " + place + ")", tower, INDEX, () -> tower.bestCall(5, place));
        }
        for (int k : new int[] {-1, 6, Edges.LOWEST, Edges.HIGHEST}) {
            Check.refused("bestCall(" + k + ", 0)", tower, ILLEGAL, () -> tower.bestCall(k, 0));
            Check.refused("bestCall(" + k + ", -1)", tower, ILLEGAL, () -> tower.bestCall(k, -1));
        }
        BellfounderTower empty = new BellfounderTower();
        Check.refused("bestCall(5, 0) without changes", empty, INDEX, () -> empty.bestCall(5, 0));
    }

    private static void firstOfTheBest() {
        BellfounderTower tower = Towers.plainBobMinimus();
        tower.at(2, 9);
        Check.is("a bob and a single alike are two good ones", tower.good(1), 2);
        Check.is("the bob comes first", tower.bestCall(1, 0), 1);
        tower.at(1, 3);
        tower.at(2, 3);
        for (int place = 0; place < 3; place++) {
            Check.is("the first of 27 alike: " + place, tower.bestCall(3, place), 0);
        }
    }

    /** 2143 and 1234 with two plain leads have as much music as 1234 alone with a bob. */
    private static void fewerLeadsFirst() {
        BellfounderTower tower = new BellfounderTower();
        tower.begin(4);
        tower.change(0);
        Check.is("good(2)", tower.good(2), 3);
        Check.is("best(2)", tower.best(2), 8);
        Check.is("bestCall(2, 0)", tower.bestCall(2, 0), 1);
        Check.refused("bestCall(2, 1)", tower, INDEX, () -> tower.bestCall(2, 1));
        tower.at(1, 0);
        Check.is("bestCall(2, 0) with the single alone", tower.bestCall(2, 0), 2);
        tower.at(2, 0);
        Check.is("good(2) with all of them alike", tower.good(2), 9);
        Check.is("bestCall(2, 0) with all of them alike", tower.bestCall(2, 0), 0);
        Check.is("bestCall(2, 1) with all of them alike", tower.bestCall(2, 1), 0);
    }

    private static void endWith() {
        BellfounderTower tower = Towers.plainBobMinimus();
        Check.refused("endWith(0, 0) of none", tower, INDEX, () -> tower.endWith(0, 0));
        tower.call(0);
        tower.call(0);
        tower.call(0);
        Check.is("endWith(0, 1)", tower.endWith(0, 1), 1423);
        Check.is("endWith(1, 2)", tower.endWith(1, 2), 1324);
        Check.is("endWith(2, 0)", tower.endWith(2, 0), 1234);
        Check.is("endWith(2, 1)", tower.endWith(2, 1), 1423);
        for (int place : new int[] {-1, 3, Edges.LOWEST, Edges.HIGHEST}) {
            Check.refused("endWith(" + place + ", 0)", tower, INDEX, () -> tower.endWith(place, 0));
            Check.refused("endWith(" + place + ", 3)", tower, INDEX, () -> tower.endWith(place, 3));
        }
        for (int call : new int[] {-1, 3, Edges.LOWEST, Edges.HIGHEST}) {
            Check.refused("endWith(0, " + call + ")", tower, ILLEGAL, () -> tower.endWith(0, call));
        }
        BellfounderTower empty = new BellfounderTower();
        empty.call(0);
        Check.is("endWith(0, 1) without changes", empty.endWith(0, 1), 12345);
    }

    private static void clashes() {
        BellfounderTower tower = Towers.plainBobMinimus();
        Check.is("clashes(0) without calls", tower.clashes(0), 0);
        tower.call(1);
        Check.is("clashes(0) behind a bob", tower.clashes(0), 7);
        Check.is("clashes(1) behind a bob", tower.clashes(1), 8);
        Check.is("clashes(2) behind a bob: 1324 counts twice", tower.clashes(2), 8);
        tower.uncall();
        tower.call(0);
        Check.is("clashes(0) behind a plain lead", tower.clashes(0), 0);
        Check.is("clashes(1) behind a plain lead", tower.clashes(1), 1);
        for (int call : new int[] {-1, 3, Edges.LOWEST, Edges.HIGHEST}) {
            Check.refused("clashes(" + call + ")", tower, ILLEGAL, () -> tower.clashes(call));
        }
        BellfounderTower empty = new BellfounderTower();
        empty.call(0);
        Check.is("clashes(0) without changes", empty.clashes(0), 0);
    }

    private static void nothingIsChanged() {
        BellfounderTower tower = Towers.plainBobMinimus();
        tower.call(0);
        tower.call(2);
        long before = tower.digest();
        for (int k = 0; k <= 5; k++) {
            tower.good(k);
            tower.best(k);
        }
        tower.bestCall(5, 0);
        tower.endWith(0, 1);
        tower.clashes(1);
        Check.is("digest behind what would be", tower.digest(), before);
        Check.is("callAt(0)", tower.callAt(0), 0);
        Check.is("callAt(1)", tower.callAt(1), 2);
        Check.is("touch(0)", tower.touch(0), 16);
    }

    private static void digest() {
        Check.is("digest of a new tower", new BellfounderTower().digest(), -1842964189053871377L);
        int[][] calls = {{}, {0}, {0, 0}, {0, 0, 2}, {0, 0, 2, 1}, {0, 0, 2, 1, 0}};
        for (int[] laid : calls) {
            BellfounderTower tower = Towers.laid(Towers.plainBobMinimus(), laid);
            tower.at(2, 0);
            Check.is("digest with calls: " + laid.length, tower.digest(), Digest.addedUp(tower));
        }
        BellfounderTower tower = Towers.laid(Towers.plainBobMinimus(), 0, 1);
        tower.begin(7);
        tower.change(64);
        tower.call(1);
        Check.is("digest of seven bells", tower.digest(), Digest.addedUp(tower));
    }
}
