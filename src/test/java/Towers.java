/** A tower that the tests start from. */
final class Towers {
    private Towers() {
    }

    /** Plain bob on four bells: a plain lead ends with 1342, a bob is 14, a single 1234. */
    static BellfounderTower plainBobMinimus() {
        BellfounderTower tower = new BellfounderTower();
        tower.begin(4);
        int[] method = {0, 9, 0, 9, 0, 9, 0, 3};
        for (int change : method) {
            tower.change(change);
        }
        tower.at(1, 9);
        return tower;
    }
}
