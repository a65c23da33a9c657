import java.util.ArrayList;
import java.util.List;

/** The digest of a tower, added up from what its other calls answer. */
final class Digest {
    private Digest() {
    }

    /** What the digest goes over, in its order; with 336 rows this still is within 512 calls. */
    static List<Integer> values(BellfounderTower tower) {
        List<Integer> values = new ArrayList<>();
        for (int what = 0; what <= 5; what++) {
            values.add(tower.told(what));
        }
        int changes = values.get(1);
        int calls = values.get(4);
        for (int k = 0; k < changes; k++) {
            values.add(tower.changeAt(k));
        }
        for (int k = 0; k < calls; k++) {
            values.add(tower.callAt(k));
        }
        for (int what = 0; what <= 7; what++) {
            values.add(tower.touch(what));
        }
        for (int k = 0; k < changes * calls; k++) {
            values.add(tower.row(k));
        }
        int n = values.get(0);
        for (int bell = 1; bell <= n; bell++) {
            values.add(tower.longest(bell));
        }
        for (int call = 0; call <= 2; call++) {
            values.add(tower.clashes(call));
        }
        values.add(tower.good(3));
        values.add(tower.best(3));
        return values;
    }

    static long addedUp(BellfounderTower tower) {
        long d = 1045;
        for (int value : values(tower)) {
            d = d * 31 + value;
        }
        return d;
    }
}
