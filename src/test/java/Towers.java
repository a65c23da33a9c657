/** Towers that the tests start from. */
final class Towers {
    private Towers() {
    }

    static BellfounderTower of(int n, int... changes) {
        BellfounderTower tower = new BellfounderTower();
        tower.begin(n);
        for (int change : changes) {
            tower.change(change);
        }
        return tower;
    }

    static BellfounderTower laid(BellfounderTower tower, int... calls) {
        for (int call : calls) {
            tower.call(call);
        }
        return tower;
    }

    /** Plain bob on four bells: a plain lead ends with 1342, a bob is 14, a single 1234. */
    static BellfounderTower plainBobMinimus() {
        BellfounderTower tower = of(4, 0, 9, 0, 9, 0, 9, 0, 3);
        tower.at(1, 9);
        return tower;
    }

    /** Two changes a lead: five leads ring ten rows, no two of them the same, and come round. */
    static BellfounderTower huntOnFive(int... calls) {
        return laid(of(5, 1, 16), calls);
    }

    /** All 14 changes: a lead rings 14 rows, no two of them the same, and comes round. */
    static BellfounderTower huntOnSeven(int... calls) {
        return laid(of(7, 64, 1, 64, 1, 64, 1, 64, 1, 64, 1, 64, 1, 64, 1), calls);
    }
}
