import java.util.Arrays;

/** A tower in which changes are rung. What each call promises stands in ../shared/DOC.md. */
public final class BellfounderTower {
    private static final int NONE = -1;
    private static final int FEWEST_BELLS = 4;
    private static final int MOST_BELLS = 7;
    private static final int BELLS_AT_FIRST = 5;
    private static final int MOST_CHANGES = 14;
    private static final int MOST_CALLS = 24;
    private static final int MOST_LEADS = 5;
    private static final int PLAIN = 0;
    private static final int BOB = 1;
    private static final int SINGLE = 2;
    /** How many rows there are of 7 bells; with fewer bells there are fewer. */
    private static final int ORDERS = 5040;
    private static final int SHORTEST_RUN = 3;
    private static final int LEADS_IN_DIGEST = 3;

    private final Method method;
    /** Always as the method and the calls are now: whatever changes one of them rings it again. */
    private final Touch touch;
    private final Search search;

    public BellfounderTower() {
        Method empty = new Method();
        method = empty;
        touch = new Touch(empty);
        search = new Search(empty);
    }

    // ---- the method

    public int begin(int n) throws IllegalArgumentException {
        if (n < FEWEST_BELLS || n > MOST_BELLS) {
            throw new IllegalArgumentException("there are 4 to 7 bells");
        }
        method.restart(n);
        touch.clear();
        return Rows.number(Rows.rounds(n), n);
    }

    public int change(int change) throws IllegalArgumentException, IllegalStateException {
        refuseNoChange(change);
        if (method.length() >= MOST_CHANGES) {
            throw new IllegalStateException("the method has 14 changes");
        }
        method.add(change);
        touch.ringAgain();
        return method.length();
    }

    public int mirror() throws IllegalStateException {
        int length = method.length();
        if (length == 0 || 2 * length - 1 > MOST_CHANGES) {
            throw new IllegalStateException("the method has no changes, or would have more than 14");
        }
        for (int k = length - 2; k >= 0; k--) {
            method.add(method.plainChange(k));
        }
        touch.ringAgain();
        return method.length();
    }

    public int unchange() throws IllegalStateException {
        if (method.length() == 0) {
            throw new IllegalStateException("the method has no changes");
        }
        int taken = method.removeLast();
        touch.ringAgain();
        return taken;
    }

    public int at(int call, int change) throws IllegalArgumentException {
        if (call != BOB && call != SINGLE) {
            throw new IllegalArgumentException("1 is the bob, 2 the single");
        }
        refuseNoChange(change);
        int before = method.insteadOfLast(call);
        method.setInsteadOfLast(call, change);
        touch.ringAgain();
        return before;
    }

    public boolean isChange(int change) {
        return Rows.canBeRung(change, method.bells());
    }

    public int told(int what) throws IllegalArgumentException {
        switch (what) {
            case 0:
                return method.bells();
            case 1:
                return method.length();
            case 2:
                return method.insteadOfLast(BOB);
            case 3:
                return method.insteadOfLast(SINGLE);
            case 4:
                return touch.callCount();
            case 5:
                return method.huntBells();
            default:
                throw new IllegalArgumentException("what is 0 to 5");
        }
    }

    public int changeAt(int k) throws IndexOutOfBoundsException {
        if (k < 0 || k >= method.length()) {
            throw new IndexOutOfBoundsException("no such place in the method");
        }
        return method.plainChange(k);
    }

    public int next(int row, int change) throws IllegalArgumentException {
        int packed = packedOrRefused(row);
        refuseNoChange(change);
        return numberOf(Rows.changed(packed, change, method.bells()));
    }

    public int lead(int row, int call) throws IllegalArgumentException {
        int packed = packedOrRefused(row);
        refuseNoCall(call);
        return numberOf(method.leadEnd(packed, call));
    }

    public int crossed(int row) throws IllegalArgumentException {
        return Rows.crossedPairs(packedOrRefused(row), method.bells());
    }

    // ---- the touch

    public int call(int call) throws IllegalArgumentException, IllegalStateException {
        refuseNoCall(call);
        if (touch.callCount() >= MOST_CALLS) {
            throw new IllegalStateException("there are 24 calls");
        }
        touch.lay(call);
        return numberOf(touch.end());
    }

    public int uncall() throws IllegalStateException {
        if (touch.callCount() == 0) {
            throw new IllegalStateException("there is no call");
        }
        return touch.takeLast();
    }

    public int callAt(int k) throws IndexOutOfBoundsException {
        refuseNoCallPlace(k);
        return touch.laidCall(k);
    }

    public int touch(int what) throws IllegalArgumentException {
        switch (what) {
            case 0:
                return touch.rowCount();
            case 1:
                return numberOf(touch.end());
            case 2:
                return touch.comesRound() ? 1 : 0;
            case 3:
                return touch.isTrue() ? 1 : 0;
            case 4:
                return touch.firstRepeat();
            case 5:
                return touch.parts();
            case 6:
                return touch.musicInAll();
            case 7:
                return touch.differentRows();
            default:
                throw new IllegalArgumentException("what is 0 to 7");
        }
    }

    public int row(int k) throws IndexOutOfBoundsException {
        refuseNoRowNumber(k);
        return numberOf(touch.packedRow(k));
    }

    public int where(int row) throws IllegalArgumentException {
        return touch.firstNumberOf(packedOrRefused(row));
    }

    public int place(int bell, int k) throws IndexOutOfBoundsException {
        refuseNoBell(bell);
        refuseNoRowNumber(k);
        return Rows.placeOf(touch.packedRow(k), bell, method.bells());
    }

    public int longest(int bell) throws IndexOutOfBoundsException {
        refuseNoBell(bell);
        return touch.longestStay(bell);
    }

    public int music(int row) throws IllegalArgumentException {
        return Rows.musicOf(packedOrRefused(row), method.bells());
    }

    public int common(int one, int other) throws IndexOutOfBoundsException {
        refuseNoCallPlace(one);
        refuseNoCallPlace(other);
        return touch.commonRows(one, other);
    }

    public double meanPlace() {
        int rows = touch.rowCount();
        return rows > 0 ? (double) touch.placesOf(method.bells()) / rows : 0;
    }

    // ---- what would be (nothing is changed)

    public int good(int k) throws IllegalArgumentException {
        refuseNoLeads(k);
        search.look(k);
        return search.goodCount();
    }

    public int best(int k) throws IllegalArgumentException {
        refuseNoLeads(k);
        search.look(k);
        return search.bestMusic();
    }

    public int bestCall(int k, int place) throws IllegalArgumentException, IndexOutOfBoundsException {
        refuseNoLeads(k);
        search.look(k);
        if (place < 0 || place >= search.bestLeads()) {
            throw new IndexOutOfBoundsException("no good touch, or no such place in it");
        }
        return search.callOfBest(place);
    }

    public int endWith(int place, int call) throws IndexOutOfBoundsException, IllegalArgumentException {
        refuseNoCallPlace(place);
        refuseNoCall(call);
        return numberOf(touch.endWithCall(place, call));
    }

    public int clashes(int call) throws IllegalArgumentException {
        refuseNoCall(call);
        return touch.clashesBehindEnd(call);
    }

    public long digest() {
        long d = 1045;
        for (int what = 0; what <= 5; what++) {
            d = d * 31 + told(what);
        }
        for (int k = 0; k < method.length(); k++) {
            d = d * 31 + method.plainChange(k);
        }
        for (int k = 0; k < touch.callCount(); k++) {
            d = d * 31 + touch.laidCall(k);
        }
        for (int what = 0; what <= 7; what++) {
            d = d * 31 + touch(what);
        }
        for (int k = 0; k < touch.rowCount(); k++) {
            d = d * 31 + numberOf(touch.packedRow(k));
        }
        for (int bell = 1; bell <= method.bells(); bell++) {
            d = d * 31 + touch.longestStay(bell);
        }
        for (int call = PLAIN; call <= SINGLE; call++) {
            d = d * 31 + touch.clashesBehindEnd(call);
        }
        search.look(LEADS_IN_DIGEST);
        d = d * 31 + search.goodCount();
        return d * 31 + search.bestMusic();
    }

    // ---- what is refused

    private void refuseNoChange(int change) {
        if (!Rows.canBeRung(change, method.bells())) {
            throw new IllegalArgumentException("no change");
        }
    }

    private void refuseNoCall(int call) {
        if (call < PLAIN || call > SINGLE) {
            throw new IllegalArgumentException("a call is 0 to 2");
        }
    }

    private void refuseNoCallPlace(int k) {
        if (k < 0 || k >= touch.callCount()) {
            throw new IndexOutOfBoundsException("no such place among the calls");
        }
    }

    private void refuseNoRowNumber(int k) {
        if (k < 0 || k >= touch.rowCount()) {
            throw new IndexOutOfBoundsException("no such row in the touch");
        }
    }

    private void refuseNoBell(int bell) {
        if (bell < 1 || bell > method.bells()) {
            throw new IndexOutOfBoundsException("no such bell");
        }
    }

    private void refuseNoLeads(int k) {
        if (k < 0 || k > MOST_LEADS) {
            throw new IllegalArgumentException("0 to 5 leads are looked at");
        }
    }

    private int packedOrRefused(int number) {
        int packed = Rows.packed(number, method.bells());
        if (packed == NONE) {
            throw new IllegalArgumentException("no row");
        }
        return packed;
    }

    private int numberOf(int packed) {
        return Rows.number(packed, method.bells());
    }

    /**
     * Rows, packed: four bits a bell, the first place in the lowest ones. So bells change places
     * without an array and without a division; only the face tells a row as a decimal number.
     */
    private static final class Rows {
        private static final int BITS = 4;
        private static final int MASK = 15;

        private Rows() {
        }

        static int rounds(int n) {
            int row = 0;
            for (int bell = 1; bell <= n; bell++) {
                row |= bell << shift(bell);
            }
            return row;
        }

        private static int shift(int place) {
            return BITS * (place - 1);
        }

        static int bellAt(int row, int place) {
            return (row >> (BITS * (place - 1))) & MASK;
        }

        static int placeOf(int row, int bell, int n) {
            for (int place = 1; place <= n; place++) {
                if (bellAt(row, place) == bell) {
                    return place;
                }
            }
            return NONE;
        }

        /** The row told by a number, or NONE if that tells no row. */
        static int packed(int number, int n) {
            int row = 0;
            int met = 0;
            int rest = number;
            for (int place = n; place >= 1; place--) {
                int bell = rest % 10;
                rest /= 10;
                if (bell < 1 || bell > n || (met & (1 << bell)) != 0) {
                    return NONE;
                }
                met |= 1 << bell;
                row |= bell << shift(place);
            }
            return rest == 0 ? row : NONE;
        }

        static int number(int row, int n) {
            int number = 0;
            for (int place = 1; place <= n; place++) {
                number = number * 10 + bellAt(row, place);
            }
            return number;
        }

        private static boolean stays(int change, int place) {
            return (change & (1 << (place - 1))) != 0;
        }

        /** Whether a number tells a set of places that is a change of n bells. */
        static boolean canBeRung(int change, int n) {
            if (change < 0 || change >= 1 << n) {
                return false;
            }
            int place = 1;
            while (place <= n) {
                if (stays(change, place)) {
                    place++;
                } else if (place < n && !stays(change, place + 1)) {
                    place += 2;
                } else {
                    return false;
                }
            }
            return true;
        }

        static int changed(int row, int change, int n) {
            int result = row;
            int place = 1;
            while (place < n) {
                if (stays(change, place)) {
                    place++;
                } else {
                    result = swapped(result, place);
                    place += 2;
                }
            }
            return result;
        }

        private static int swapped(int row, int place) {
            int low = BITS * (place - 1);
            int high = low + BITS;
            int unlike = ((row >> low) ^ (row >> high)) & MASK;
            return row ^ (unlike << low) ^ (unlike << high);
        }

        /** The row that comes of row by what makes of rounds the other one. */
        static int composed(int row, int other, int n) {
            int result = 0;
            for (int place = 1; place <= n; place++) {
                result |= bellAt(row, bellAt(other, place)) << shift(place);
            }
            return result;
        }

        static int crossedPairs(int row, int n) {
            int pairs = 0;
            for (int place = 1; place <= n; place++) {
                for (int later = place + 1; later <= n; later++) {
                    if (bellAt(row, place) > bellAt(row, later)) {
                        pairs++;
                    }
                }
            }
            return pairs;
        }

        static int musicOf(int row, int n) {
            return runLength(row, 1, 1, n) + runLength(row, n, -1, n);
        }

        /** How many bells the run has that starts at a place and goes on by 1 or -1; 0 without one. */
        private static int runLength(int row, int from, int by, int n) {
            int step = bellAt(row, from + by) - bellAt(row, from);
            if (step != 1 && step != -1) {
                return 0;
            }
            int length = 2;
            while (length < n && bellAt(row, from + length * by) - bellAt(row, from + (length - 1) * by) == step) {
                length++;
            }
            return length >= SHORTEST_RUN ? length : 0;
        }

        /** The number of a row, from 0, among all those of n bells in the order of their numbers. */
        static int rank(int row, int n) {
            int rank = 0;
            int met = 0;
            int rest = row;
            for (int left = n; left >= 1; left--) {
                int bell = rest & MASK;
                rest >>= BITS;
                int smallerMet = Integer.bitCount(met & ((1 << bell) - 1));
                rank = rank * left + bell - 1 - smallerMet;
                met |= 1 << bell;
            }
            return rank;
        }
    }

    /** Numbers in a line, with a fixed room, so that no call makes a new array. */
    private static final class Line {
        private final int[] cells;
        private int size;

        Line(int room) {
            cells = new int[Math.max(room, 0)];
        }

        int size() {
            return size;
        }

        int get(int k) {
            return k >= 0 && k < size && k < cells.length ? cells[k] : NONE;
        }

        void add(int value) {
            if (size >= 0 && size < cells.length) {
                cells[size] = value;
                size++;
            }
        }

        int removeLast() {
            int last = get(size - 1);
            if (size > 0) {
                size--;
            }
            return last;
        }

        void clear() {
            size = 0;
        }
    }

    /** Notes for the rows of a touch, by their rank, under which number each was rung first. */
    private static final class Book {
        /** The numbers, each 1 more, so that 0 is none. */
        private final int[] notes = new int[ORDERS];

        int firstNumber(int rank) {
            return rank >= 0 && rank < notes.length ? notes[rank] - 1 : NONE;
        }

        void note(int rank, int number) {
            if (rank >= 0 && rank < notes.length) {
                notes[rank] = number + 1;
            }
        }

        void strike(int rank) {
            note(rank, NONE);
        }

        void clear() {
            Arrays.fill(notes, 0);
        }
    }

    /** The bells, the changes of the method, and what a call rings in place of the last one. */
    private static final class Method {
        private final Line changes = new Line(MOST_CHANGES);
        private int bells = BELLS_AT_FIRST;
        private int bob = (1 << BELLS_AT_FIRST) - 1;
        private int single = (1 << BELLS_AT_FIRST) - 1;

        void restart(int n) {
            changes.clear();
            bells = n;
            bob = (1 << n) - 1;
            single = (1 << n) - 1;
        }

        int bells() {
            return bells;
        }

        int length() {
            return changes.size();
        }

        void add(int change) {
            changes.add(change);
        }

        int removeLast() {
            return changes.removeLast();
        }

        int plainChange(int k) {
            return changes.get(k);
        }

        int insteadOfLast(int call) {
            return call == BOB ? bob : single;
        }

        void setInsteadOfLast(int call, int change) {
            if (call == BOB) {
                bob = change;
            } else {
                single = change;
            }
        }

        /** The change that is rung at a place of the method in a lead with that call. */
        int rungChange(int k, int call) {
            return call != PLAIN && k == changes.size() - 1 ? insteadOfLast(call) : changes.get(k);
        }

        int leadEnd(int from, int call) {
            int row = from;
            for (int k = 0; k < changes.size(); k++) {
                row = Rows.changed(row, rungChange(k, call), bells);
            }
            return row;
        }

        int huntBells() {
            int rounds = Rows.rounds(bells);
            int plain = leadEnd(rounds, PLAIN);
            int bobbed = leadEnd(rounds, BOB);
            int singled = leadEnd(rounds, SINGLE);
            int hunting = 0;
            for (int bell = 1; bell <= bells; bell++) {
                if (Rows.bellAt(plain, bell) == bell && Rows.bellAt(bobbed, bell) == bell
                        && Rows.bellAt(singled, bell) == bell) {
                    hunting++;
                }
            }
            return hunting;
        }
    }

    /** Calls laid one behind the other, and the rows that are rung with them. */
    private static final class Touch {
        private final Method method;
        private final Line calls = new Line(MOST_CALLS);
        private final Line rows = new Line(MOST_CALLS * MOST_CHANGES);
        private final Book book = new Book();
        private int different;
        private int repeat = NONE;

        Touch(Method method) {
            this.method = method;
        }

        void clear() {
            calls.clear();
            clearRows();
        }

        private void clearRows() {
            rows.clear();
            book.clear();
            different = 0;
            repeat = NONE;
        }

        void ringAgain() {
            clearRows();
            for (int k = 0; k < calls.size(); k++) {
                ringLead(calls.get(k));
            }
        }

        void lay(int call) {
            calls.add(call);
            ringLead(call);
        }

        int takeLast() {
            for (int k = 0; k < method.length(); k++) {
                dropLastRow();
            }
            return calls.removeLast();
        }

        private void ringLead(int call) {
            int row = end();
            for (int k = 0; k < method.length(); k++) {
                row = Rows.changed(row, method.rungChange(k, call), method.bells());
                addRow(row);
            }
        }

        private void addRow(int row) {
            int number = rows.size();
            int rank = Rows.rank(row, method.bells());
            if (book.firstNumber(rank) == NONE) {
                book.note(rank, number);
                different++;
            } else if (repeat == NONE) {
                repeat = number;
            }
            rows.add(row);
        }

        private void dropLastRow() {
            int number = rows.size() - 1;
            int rank = Rows.rank(rows.removeLast(), method.bells());
            if (book.firstNumber(rank) == number) {
                book.strike(rank);
                different--;
            } else if (repeat == number) {
                repeat = NONE;
            }
        }

        int callCount() {
            return calls.size();
        }

        int laidCall(int k) {
            return calls.get(k);
        }

        int rowCount() {
            return rows.size();
        }

        int packedRow(int k) {
            return rows.get(k);
        }

        int end() {
            return rows.size() == 0 ? Rows.rounds(method.bells()) : rows.get(rows.size() - 1);
        }

        boolean comesRound() {
            return rows.size() > 0 && end() == Rows.rounds(method.bells());
        }

        boolean isTrue() {
            return repeat == NONE;
        }

        int firstRepeat() {
            return repeat;
        }

        int differentRows() {
            return different;
        }

        int firstNumberOf(int row) {
            return book.firstNumber(Rows.rank(row, method.bells()));
        }

        int parts() {
            if (rows.size() == 0) {
                return 0;
            }
            int rounds = Rows.rounds(method.bells());
            int row = end();
            int parts = 1;
            while (row != rounds && parts < ORDERS) {
                row = Rows.composed(row, end(), method.bells());
                parts++;
            }
            return parts;
        }

        int musicInAll() {
            int music = 0;
            for (int k = 0; k < rows.size(); k++) {
                music += Rows.musicOf(rows.get(k), method.bells());
            }
            return music;
        }

        int longestStay(int bell) {
            int longest = 0;
            int stay = 0;
            int before = NONE;
            for (int k = 0; k < rows.size(); k++) {
                int place = Rows.placeOf(rows.get(k), bell, method.bells());
                stay = place == before ? stay + 1 : 1;
                longest = Math.max(longest, stay);
                before = place;
            }
            return longest;
        }

        /** The places of a bell in all rows, added up. */
        int placesOf(int bell) {
            int sum = 0;
            for (int k = 0; k < rows.size(); k++) {
                sum += Rows.placeOf(rows.get(k), bell, method.bells());
            }
            return sum;
        }

        int commonRows(int one, int other) {
            int length = method.length();
            int common = 0;
            for (int k = one * length; k < (one + 1) * length; k++) {
                int row = rows.get(k);
                boolean isNew = !isAmong(row, one * length, k);
                if (isNew && isAmong(row, other * length, (other + 1) * length)) {
                    common++;
                }
            }
            return common;
        }

        private boolean isAmong(int row, int from, int to) {
            for (int k = from; k < to; k++) {
                if (rows.get(k) == row) {
                    return true;
                }
            }
            return false;
        }

        int endWithCall(int place, int call) {
            int row = Rows.rounds(method.bells());
            for (int k = 0; k < calls.size(); k++) {
                row = method.leadEnd(row, k == place ? call : calls.get(k));
            }
            return row;
        }

        int clashesBehindEnd(int call) {
            int clashes = 0;
            int row = end();
            for (int k = 0; k < method.length(); k++) {
                row = Rows.changed(row, method.rungChange(k, call), method.bells());
                if (firstNumberOf(row) != NONE) {
                    clashes++;
                }
            }
            return clashes;
        }
    }

    /** Looks at all touches of some leads, and keeps how many are good, and the best one. */
    private static final class Search {
        /** Empty between two looks, as each call that is laid here is taken away again. */
        private final Touch trial;
        private final Line bestCalls = new Line(MOST_LEADS);
        private int good;
        private int best = NONE;

        Search(Method method) {
            trial = new Touch(method);
        }

        void look(int leads) {
            bestCalls.clear();
            good = 0;
            best = NONE;
            extend(this, leads);
        }

        private static void extend(Search search, int leadsLeft) {
            if (leadsLeft < 1 || leadsLeft > MOST_LEADS) {
                return;
            }
            for (int call = PLAIN; call <= SINGLE; call++) {
                search.trial.lay(call);
                // What is not true stays so with more leads, and what has come round
                // could only have rounds twice: neither can grow into a good one.
                if (search.trial.isTrue()) {
                    if (search.trial.comesRound()) {
                        search.keep(search.trial.musicInAll());
                    } else {
                        extend(search, leadsLeft - 1);
                    }
                }
                search.trial.takeLast();
            }
        }

        private void keep(int music) {
            good++;
            // Those of as many leads come in their order, but a longer one may come ahead of a shorter one.
            boolean isFirstOfEqual = music == best && trial.callCount() < bestCalls.size();
            if (music > best || isFirstOfEqual) {
                best = music;
                bestCalls.clear();
                for (int k = 0; k < trial.callCount(); k++) {
                    bestCalls.add(trial.laidCall(k));
                }
            }
        }

        int goodCount() {
            return good;
        }

        int bestMusic() {
            return best;
        }

        int bestLeads() {
            return bestCalls.size();
        }

        int callOfBest(int place) {
            return bestCalls.get(place);
        }
    }
}
