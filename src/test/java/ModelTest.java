import java.util.ArrayList;
import java.util.HashSet;
import java.util.List;
import java.util.Random;

/**
 * Long runs of calls, each answer compared with that of a model that says the document's terms
 * once more in their plainest form: rows are texts, and every touch is rung from its beginning.
 */
public final class ModelTest {
    private static final int RUNS = 240;
    /** What later calls answer is free. */
    private static final int CALLS = 512;
    /** Far fewer turns than this make all those calls. */
    private static final int TURNS = 4 * CALLS;

    public static void main(String[] args) {
        for (int run = 0; run < RUNS; run++) {
            new Run(run).ring();
        }
        Check.end("ModelTest");
    }

    private static final class Run {
        private final int run;
        private final Random random;
        private final BellfounderTower tower = new BellfounderTower();
        private final Model model = new Model();
        private int made = 0;

        Run(int run) {
            this.run = run;
            this.random = new Random(1045L * 7919 + run);
        }

        void ring() {
            same("digest()", tower::digest, model::digest);
            if (run % 2 == 0) {
                startWithPlainHunt(4 + run / 2 % 4);
            }
            for (int turn = 0; turn < TURNS && made < CALLS; turn++) {
                int kind = random.nextInt(100);
                if (kind < 45) {
                    changeSomething();
                } else if (kind < 94) {
                    askSomething();
                } else if (kind < 98) {
                    search();
                } else {
                    same("digest()", tower::digest, model::digest);
                }
            }
            Check.is("run " + run + ": how many calls", made, CALLS);
        }

        /** So that touches come round, and some of them are good. */
        private void startWithPlainHunt(int n) {
            int[] ends = n % 2 == 0 ? new int[] {0, 1 + (1 << (n - 1))} : new int[] {1 << (n - 1), 1};
            same("begin(" + n + ")", () -> tower.begin(n), () -> model.begin(n));
            int length = random.nextBoolean() ? 2 * n : 1 + random.nextInt(2 * n);
            for (int k = 0; k < length - 1; k++) {
                int change = ends[k % 2];
                same("change(" + change + ")", () -> tower.change(change), () -> model.change(change));
            }
            int last = anyChange();
            int bob = anyChange();
            int single = anyChange();
            same("change(" + last + ")", () -> tower.change(last), () -> model.change(last));
            same("at(1, " + bob + ")", () -> tower.at(1, bob), () -> model.at(1, bob));
            same("at(2, " + single + ")", () -> tower.at(2, single), () -> model.at(2, single));
            same("good(5)", () -> tower.good(5), () -> model.good(5));
            same("best(5)", () -> tower.best(5), () -> model.best(5));
            for (int k = 0; k < 5; k++) {
                int place = k;
                same("bestCall(5, " + k + ")", () -> tower.bestCall(5, place), () -> model.bestCall(5, place));
            }
        }

        private void same(String call, Check.Call got, Check.Call due) {
            if (made < CALLS) {
                made++;
                Check.is("run " + run + ": " + call, Check.answerOf(got), Check.answerOf(due));
            }
        }

        private void changeSomething() {
            int kind = random.nextInt(40);
            int a = anyChange();
            int b = around(0, 2);
            if (kind < 15) {
                same("change(" + a + ")", () -> tower.change(a), () -> model.change(a));
            } else if (kind < 16) {
                same("mirror()", tower::mirror, model::mirror);
            } else if (kind < 18) {
                same("unchange()", tower::unchange, model::unchange);
            } else if (kind < 22) {
                same("at(" + b + ", " + a + ")", () -> tower.at(b, a), () -> model.at(b, a));
            } else if (kind < 36) {
                same("call(" + b + ")", () -> tower.call(b), () -> model.call(b));
            } else if (kind < 39) {
                same("uncall()", tower::uncall, model::uncall);
            } else if (random.nextInt(3) == 0) {
                int n = around(4, 7);
                same("begin(" + n + ")", () -> tower.begin(n), () -> model.begin(n));
            }
        }

        private void askSomething() {
            int row = anyRow();
            int change = anyChange();
            int call = around(0, 2);
            int bell = around(1, model.n);
            int lead = around(0, Math.max(0, model.calls.size() - 1));
            int other = around(0, Math.max(0, model.calls.size() - 1));
            int number = around(0, Math.max(0, model.calls.size() * model.changes.size() - 1));
            int what = around(0, 7);
            switch (random.nextInt(16)) {
                case 0 -> same("isChange(" + change + ")", () -> tower.isChange(change), () -> model.isChange(change));
                case 1 -> same("told(" + what + ")", () -> tower.told(what), () -> model.told(what));
                case 2 -> {
                    int k = around(0, Math.max(0, model.changes.size() - 1));
                    same("changeAt(" + k + ")", () -> tower.changeAt(k), () -> model.changeAt(k));
                }
                case 3 -> same("next(" + row + ", " + change + ")",
                        () -> tower.next(row, change), () -> model.next(row, change));
                case 4 -> same("lead(" + row + ", " + call + ")",
                        () -> tower.lead(row, call), () -> model.lead(row, call));
                case 5 -> same("crossed(" + row + ")", () -> tower.crossed(row), () -> model.crossed(row));
                case 6 -> same("callAt(" + lead + ")", () -> tower.callAt(lead), () -> model.callAt(lead));
                case 7 -> same("touch(" + what + ")", () -> tower.touch(what), () -> model.touch(what));
                case 8 -> same("row(" + number + ")", () -> tower.row(number), () -> model.row(number));
                case 9 -> same("where(" + row + ")", () -> tower.where(row), () -> model.where(row));
                case 10 -> same("place(" + bell + ", " + number + ")",
                        () -> tower.place(bell, number), () -> model.place(bell, number));
                case 11 -> same("longest(" + bell + ")", () -> tower.longest(bell), () -> model.longest(bell));
                case 12 -> same("music(" + row + ")", () -> tower.music(row), () -> model.music(row));
                case 13 -> same("common(" + lead + ", " + other + ")",
                        () -> tower.common(lead, other), () -> model.common(lead, other));
                case 14 -> same("meanPlace()", tower::meanPlace, model::meanPlace);
                default -> {
                    same("endWith(" + lead + ", " + call + ")",
                            () -> tower.endWith(lead, call), () -> model.endWith(lead, call));
                    same("clashes(" + call + ")", () -> tower.clashes(call), () -> model.clashes(call));
                }
            }
        }

        private void search() {
            int k = random.nextInt(3) == 0 ? around(0, 5) : around(0, 3);
            int place = around(0, 4);
            same("good(" + k + ")", () -> tower.good(k), () -> model.good(k));
            same("best(" + k + ")", () -> tower.best(k), () -> model.best(k));
            same("bestCall(" + k + ", " + place + ")",
                    () -> tower.bestCall(k, place), () -> model.bestCall(k, place));
        }

        /** Mostly a number from low to high, sometimes one just beside, seldom one far away. */
        private int around(int low, int high) {
            int kind = random.nextInt(40);
            if (kind == 0) {
                return random.nextBoolean() ? Integer.MIN_VALUE : Integer.MAX_VALUE;
            }
            if (kind == 1) {
                return random.nextInt();
            }
            if (kind < 6) {
                return random.nextBoolean() ? low - 1 : high + 1;
            }
            return low + random.nextInt(high - low + 1);
        }

        private int anyChange() {
            int set = around(0, (1 << model.n) - 1);
            for (int k = 0; k < 30 && !model.isChange(set) && random.nextInt(20) != 0; k++) {
                set = random.nextInt(1 << model.n);
            }
            return set;
        }

        private int anyRow() {
            int kind = random.nextInt(20);
            if (kind == 0) {
                return random.nextInt();
            }
            List<Integer> bells = new ArrayList<>();
            for (int bell = 1; bell <= model.n; bell++) {
                bells.add(random.nextInt(3) == 0 ? bells.size() / 2 : bells.size(), bell);
            }
            if (kind == 1) {
                bells.set(random.nextInt(model.n), random.nextInt(10));
            } else if (kind == 2) {
                bells.remove(random.nextInt(model.n));
            } else if (kind == 3) {
                bells.add(random.nextInt(model.n), random.nextInt(10));
            }
            StringBuilder text = new StringBuilder(kind == 4 ? "-" : "");
            for (int bell : bells) {
                text.append(bell);
            }
            return Integer.parseInt(text.toString());
        }
    }

    /** The document's terms, said plainly. */
    private static final class Model {
        private int n = 5;
        private List<Integer> changes = new ArrayList<>();
        private int bob = 31;
        private int single = 31;
        private List<Integer> calls = new ArrayList<>();

        private String rounds() {
            return "1234567".substring(0, n);
        }

        private static int number(String row) {
            return Integer.parseInt(row);
        }

        private String rowOf(int number) {
            String text = Integer.toString(number);
            if (text.length() != n) {
                throw new IllegalArgumentException();
            }
            for (int bell = 1; bell <= n; bell++) {
                if (text.indexOf('0' + bell) < 0) {
                    throw new IllegalArgumentException();
                }
            }
            return text;
        }

        private boolean has(int set, int place) {
            return set / (1 << (place - 1)) % 2 == 1;
        }

        boolean isChange(int set) {
            if (set < 0 || set > (1 << n) - 1) {
                return false;
            }
            StringBuilder marks = new StringBuilder();
            for (int place = 1; place <= n; place++) {
                marks.append(has(set, place) ? 's' : 'c');
            }
            return marks.toString().matches("(s|cc)*");
        }

        private void mustBeChange(int set) {
            if (!isChange(set)) {
                throw new IllegalArgumentException();
            }
        }

        private static void mustBe(int what, int low, int high) {
            if (what < low || what > high) {
                throw new IllegalArgumentException();
            }
        }

        private static void mustBePlace(int what, int low, int high) {
            if (what < low || what > high) {
                throw new IndexOutOfBoundsException();
            }
        }

        private String changed(String row, int set) {
            if (row.isEmpty()) {
                return "";
            }
            int ahead = n - row.length();
            if (has(set, ahead + 1)) {
                return row.charAt(0) + changed(row.substring(1), set);
            }
            return "" + row.charAt(1) + row.charAt(0) + changed(row.substring(2), set);
        }

        private List<String> leadRows(String from, int call) {
            List<Integer> rung = new ArrayList<>(changes);
            if (!rung.isEmpty() && call == 1) {
                rung.set(rung.size() - 1, bob);
            }
            if (!rung.isEmpty() && call == 2) {
                rung.set(rung.size() - 1, single);
            }
            List<String> rows = new ArrayList<>();
            String row = from;
            for (int set : rung) {
                row = changed(row, set);
                rows.add(row);
            }
            return rows;
        }

        private static String lastOr(List<String> rows, String otherwise) {
            return rows.isEmpty() ? otherwise : rows.get(rows.size() - 1);
        }

        private List<String> touchRows(List<Integer> laid) {
            return touchRows(laid, rounds());
        }

        private List<String> touchRows(List<Integer> laid, String from) {
            List<String> rows = new ArrayList<>();
            for (int call : laid) {
                rows.addAll(leadRows(lastOr(rows, from), call));
            }
            return rows;
        }

        private boolean comesRound(List<Integer> laid) {
            return lastOr(touchRows(laid), "").equals(rounds());
        }

        private boolean isTrue(List<Integer> laid) {
            List<String> rows = touchRows(laid);
            return new HashSet<>(rows).size() == rows.size();
        }

        private int parts() {
            if (touchRows(calls).isEmpty()) {
                return 0;
            }
            String row = rounds();
            int parts = 0;
            do {
                row = lastOr(touchRows(calls, row), row);
                parts++;
            } while (!row.equals(rounds()));
            return parts;
        }

        private static int headRun(String row, int step) {
            int run = 1;
            while (run < row.length() && row.charAt(run) - row.charAt(run - 1) == step) {
                run++;
            }
            return run >= 3 ? run : 0;
        }

        private static int musicOf(String row) {
            String back = new StringBuilder(row).reverse().toString();
            return Math.max(headRun(row, 1), headRun(row, -1)) + Math.max(headRun(back, 1), headRun(back, -1));
        }

        private int musicOf(List<Integer> laid) {
            int music = 0;
            for (String row : touchRows(laid)) {
                music += musicOf(row);
            }
            return music;
        }

        private List<List<Integer>> goodOnes(int k) {
            List<List<Integer>> good = new ArrayList<>();
            List<List<Integer>> all = new ArrayList<>();
            all.add(new ArrayList<>());
            for (int leads = 1; leads <= k; leads++) {
                List<List<Integer>> longer = new ArrayList<>();
                for (List<Integer> shorter : all) {
                    for (int call = 0; call <= 2; call++) {
                        List<Integer> laid = new ArrayList<>(shorter);
                        laid.add(call);
                        longer.add(laid);
                        if (isGood(laid)) {
                            good.add(laid);
                        }
                    }
                }
                all = longer;
            }
            return good;
        }

        private boolean isGood(List<Integer> laid) {
            if (!comesRound(laid) || !isTrue(laid)) {
                return false;
            }
            for (int leads = 1; leads < laid.size(); leads++) {
                if (comesRound(laid.subList(0, leads))) {
                    return false;
                }
            }
            return true;
        }

        private List<Integer> bestOne(int k) {
            List<Integer> best = null;
            for (List<Integer> laid : goodOnes(k)) {
                if (best == null || musicOf(laid) > musicOf(best)) {
                    best = laid;
                }
            }
            return best;
        }

        // ---- the face

        int begin(int bells) {
            mustBe(bells, 4, 7);
            n = bells;
            changes = new ArrayList<>();
            calls = new ArrayList<>();
            bob = (1 << n) - 1;
            single = bob;
            return number(rounds());
        }

        int change(int set) {
            mustBeChange(set);
            if (changes.size() == 14) {
                throw new IllegalStateException();
            }
            changes.add(set);
            return changes.size();
        }

        int mirror() {
            List<Integer> longer = new ArrayList<>(changes);
            for (int k = changes.size() - 2; k >= 0; k--) {
                longer.add(changes.get(k));
            }
            if (changes.isEmpty() || longer.size() > 14) {
                throw new IllegalStateException();
            }
            changes = longer;
            return changes.size();
        }

        int unchange() {
            if (changes.isEmpty()) {
                throw new IllegalStateException();
            }
            return changes.remove(changes.size() - 1);
        }

        int at(int call, int set) {
            mustBe(call, 1, 2);
            mustBeChange(set);
            int before = call == 1 ? bob : single;
            if (call == 1) {
                bob = set;
            } else {
                single = set;
            }
            return before;
        }

        int told(int what) {
            mustBe(what, 0, 5);
            int hunting = 0;
            for (int bell = 1; bell <= n; bell++) {
                boolean hunts = true;
                for (int call = 0; call <= 2; call++) {
                    hunts &= lastOr(leadRows(rounds(), call), rounds()).charAt(bell - 1) == '0' + bell;
                }
                hunting += hunts ? 1 : 0;
            }
            return new int[] {n, changes.size(), bob, single, calls.size(), hunting}[what];
        }

        int changeAt(int k) {
            mustBePlace(k, 0, changes.size() - 1);
            return changes.get(k);
        }

        int next(int row, int set) {
            String from = rowOf(row);
            mustBeChange(set);
            return number(changed(from, set));
        }

        int lead(int row, int call) {
            String from = rowOf(row);
            mustBe(call, 0, 2);
            return number(lastOr(leadRows(from, call), from));
        }

        int crossed(int row) {
            String text = rowOf(row);
            int pairs = 0;
            for (char small = '1'; small < '0' + n; small++) {
                for (char great = (char) (small + 1); great <= '0' + n; great++) {
                    pairs += text.indexOf(great) < text.indexOf(small) ? 1 : 0;
                }
            }
            return pairs;
        }

        int call(int call) {
            mustBe(call, 0, 2);
            if (calls.size() == 24) {
                throw new IllegalStateException();
            }
            calls.add(call);
            return number(lastOr(touchRows(calls), rounds()));
        }

        int uncall() {
            if (calls.isEmpty()) {
                throw new IllegalStateException();
            }
            return calls.remove(calls.size() - 1);
        }

        int callAt(int k) {
            mustBePlace(k, 0, calls.size() - 1);
            return calls.get(k);
        }

        int touch(int what) {
            mustBe(what, 0, 7);
            List<String> rows = touchRows(calls);
            return switch (what) {
                case 0 -> rows.size();
                case 1 -> number(lastOr(rows, rounds()));
                case 2 -> comesRound(calls) ? 1 : 0;
                case 3 -> isTrue(calls) ? 1 : 0;
                case 4 -> {
                    int first = -1;
                    for (int k = rows.size() - 1; k >= 0; k--) {
                        first = rows.subList(0, k).contains(rows.get(k)) ? k : first;
                    }
                    yield first;
                }
                case 5 -> parts();
                case 6 -> musicOf(calls);
                default -> new HashSet<>(rows).size();
            };
        }

        int row(int k) {
            List<String> rows = touchRows(calls);
            mustBePlace(k, 0, rows.size() - 1);
            return number(rows.get(k));
        }

        int where(int row) {
            return touchRows(calls).indexOf(rowOf(row));
        }

        int place(int bell, int k) {
            List<String> rows = touchRows(calls);
            mustBePlace(bell, 1, n);
            mustBePlace(k, 0, rows.size() - 1);
            return rows.get(k).indexOf('0' + bell) + 1;
        }

        int longest(int bell) {
            mustBePlace(bell, 1, n);
            List<String> rows = touchRows(calls);
            int longest = 0;
            for (int from = 0; from < rows.size(); from++) {
                int to = from;
                while (to < rows.size()
                        && rows.get(to).indexOf('0' + bell) == rows.get(from).indexOf('0' + bell)) {
                    to++;
                }
                longest = Math.max(longest, to - from);
            }
            return longest;
        }

        int music(int row) {
            return musicOf(rowOf(row));
        }

        private HashSet<String> rowsOfLead(int k) {
            int length = changes.size();
            return new HashSet<>(touchRows(calls).subList(k * length, k * length + length));
        }

        int common(int one, int other) {
            mustBePlace(one, 0, calls.size() - 1);
            mustBePlace(other, 0, calls.size() - 1);
            HashSet<String> both = rowsOfLead(one);
            both.retainAll(rowsOfLead(other));
            return both.size();
        }

        double meanPlace() {
            List<String> rows = touchRows(calls);
            double sum = 0;
            for (String row : rows) {
                sum += row.indexOf('0' + n) + 1;
            }
            return rows.isEmpty() ? 0 : sum / rows.size();
        }

        int good(int k) {
            mustBe(k, 0, 5);
            return goodOnes(k).size();
        }

        int best(int k) {
            mustBe(k, 0, 5);
            List<Integer> best = bestOne(k);
            return best == null ? -1 : musicOf(best);
        }

        int bestCall(int k, int place) {
            mustBe(k, 0, 5);
            List<Integer> best = bestOne(k);
            if (best == null) {
                throw new IndexOutOfBoundsException();
            }
            mustBePlace(place, 0, best.size() - 1);
            return best.get(place);
        }

        int endWith(int place, int call) {
            mustBePlace(place, 0, calls.size() - 1);
            mustBe(call, 0, 2);
            List<Integer> other = new ArrayList<>(calls);
            other.set(place, call);
            return number(lastOr(touchRows(other), rounds()));
        }

        int clashes(int call) {
            mustBe(call, 0, 2);
            List<String> rows = touchRows(calls);
            int clashes = 0;
            for (String row : leadRows(lastOr(rows, rounds()), call)) {
                clashes += rows.contains(row) ? 1 : 0;
            }
            return clashes;
        }

        long digest() {
            List<Integer> values = new ArrayList<>();
            for (int what = 0; what <= 5; what++) {
                values.add(told(what));
            }
            values.addAll(changes);
            values.addAll(calls);
            for (int what = 0; what <= 7; what++) {
                values.add(touch(what));
            }
            for (String row : touchRows(calls)) {
                values.add(number(row));
            }
            for (int bell = 1; bell <= n; bell++) {
                values.add(longest(bell));
            }
            for (int call = 0; call <= 2; call++) {
                values.add(clashes(call));
            }
            values.add(good(3));
            values.add(best(3));
            long d = 1045;
            for (int value : values) {
                d = d * 31 + value;
            }
            return d;
        }
    }
}
