import java.util.Arrays;

/**
 * A bench for curves that tell how much can come, or must be served, in a span. See README.md; the
 * words in capitals are those of the document.
 */
public final class FlowCurves {
    public static final int BAD = -1, STATE = -2, FULL = -3, BEYOND = -4, ENDLESS = -5;

    private static final int NONE = -1;
    private static final int MOST_CURVES = 60;
    private static final int MOST_START = 200;
    private static final int MOST_STEP = 60;
    private static final int MOST_GAIN = 1000000000;
    private static final long MOST_AMOUNT = 1000000000000L;
    private static final int MOST_ROW = 300;
    private static final int MOST_DRAW = 1000000;
    private static final int MOST_FACTOR = 1000;
    private static final int MOST_SHIFT = 200;
    private static final int MOST_SPAN = 1000000000;
    private static final int MOST_STEPS = 60;
    private static final int MOST_COME = 1000000000;
    private static final int MOST_LATE = 500;
    private static final int MOST_MOVED_SPAN = 600;

    private static final int SUM = 0, LEAST = 1, MOST = 2, REST = 3, BOTH = 4, OFF = 5;
    private static final int KIND_CURVE = 0, KIND_BURST = 1, KIND_RAY = 2, KIND_LATE = 3, KIND_STAIR = 4;
    private static final int KINDS = 5;

    private final Curve[] curves = new Curve[MOST_CURVES];
    private int curveCount = 0;
    private boolean mayUndo = false;
    private final long[] row = new long[MOST_ROW];
    private int rowCount = 0;
    private final Run run = new Run();
    private int server = NONE;
    private final Tally tally = new Tally();
    private final Maker maker = new Maker();
    private int latest = 0;

    public FlowCurves() {
    }

    // ---- making

    public int put(long v) {
        if (v < 0 || v > MOST_AMOUNT) {
            return refused(BAD);
        }
        if (rowCount >= row.length) {
            return refused(FULL);
        }
        row[rowCount] = v;
        rowCount++;
        return granted(rowCount);
    }

    public int draw(int n, int z, int most) {
        if (n < 1 || n > MOST_ROW || most < 0 || most > MOST_DRAW) {
            return refused(BAD);
        }
        if (n > row.length - rowCount) {
            return refused(FULL);
        }
        long drawn = z;
        long last = rowCount > 0 ? row[rowCount - 1] : 0;
        for (int i = 0; i < n && rowCount < row.length; i++) {
            drawn = (drawn * 1103515245L + 12345L) & 0x7fffffffL;
            last += (drawn >> 8) % (most + 1);
            row[rowCount] = last;
            rowCount++;
        }
        return granted(rowCount);
    }

    public int drop() {
        int had = rowCount;
        rowCount = 0;
        return granted(had);
    }

    public int curve(int step, int gain) {
        if (step < 1 || step > MOST_STEP || gain < 0 || gain > MOST_GAIN) {
            return refused(BAD);
        }
        if (!rowComesRound(step, gain)) {
            return refused(STATE);
        }
        if (curveCount >= curves.length) {
            return refused(FULL);
        }
        Curve made = maker.fromRow(row, rowCount, step, gain);
        if (made != null) {
            rowCount = 0;
        }
        return kept(made);
    }

    public int ray(int c) {
        if (c < 0 || c > MOST_GAIN) {
            return refused(BAD);
        }
        if (curveCount >= curves.length) {
            return refused(FULL);
        }
        return kept(maker.straight(c));
    }

    public int of(int way, int f, int g) {
        Curve one = curveNumbered(f);
        Curve other = curveNumbered(g);
        if (way < SUM || way > OFF || one == null || other == null) {
            return refused(BAD);
        }
        if (curveCount >= curves.length) {
            return refused(FULL);
        }
        int common = Pairs.commonStep(one, other);
        if (common == NONE) {
            return refused(BEYOND);
        }
        if (way == OFF && Pairs.outruns(one, other, common)) {
            return refused(ENDLESS);
        }
        return kept(maker.fromBoth(way, one, other, common));
    }

    public int times(int f, int n) {
        Curve one = curveNumbered(f);
        if (one == null || n < 0 || n > MOST_FACTOR) {
            return refused(BAD);
        }
        if (curveCount >= curves.length) {
            return refused(FULL);
        }
        return kept(maker.multiplied(one, n));
    }

    public int shift(int f, int n) {
        Curve one = curveNumbered(f);
        if (one == null || n < 0 || n > MOST_SHIFT) {
            return refused(BAD);
        }
        if (curveCount >= curves.length) {
            return refused(FULL);
        }
        return kept(maker.delayed(one, n));
    }

    public int undo() {
        if (!mayUndo || curveCount < 1 || curveCount > curves.length) {
            return refused(STATE);
        }
        curveCount--;
        curves[curveCount] = null;
        if (server == curveCount) {
            server = NONE;
        }
        mayUndo = false;
        return granted(curveCount);
    }

    // ---- told of curves

    public long at(int f, int t) {
        Curve one = curveNumbered(f);
        if (one == null || t < 0 || t > MOST_SPAN) {
            return refusedAmount(BAD);
        }
        return grantedAmount(one.asked(t, tally));
    }

    public int about(int f, int what) {
        Curve one = curveNumbered(f);
        if (one == null) {
            return refused(BAD);
        }
        switch (what) {
            case 0: return granted(one.start);
            case 1: return granted(one.step);
            case 2: return granted(one.gain);
            case 3: return granted(one.kind());
            case 4: return granted(one.isClosed() ? 1 : 0);
            default: return refused(BAD);
        }
    }

    public int rate(int f, int what) {
        Curve one = curveNumbered(f);
        if (one == null || what < 0 || what > 1) {
            return refused(BAD);
        }
        int shared = one.sharedByGainAndStep();
        int figure = what == 0 ? one.gain : one.step;
        return granted(shared < 1 ? figure : figure / shared);
    }

    public int unlike(int f, int g) {
        Curve one = curveNumbered(f);
        Curve other = curveNumbered(g);
        if (one == null || other == null) {
            latest = BAD;
            return -2;
        }
        int common = Pairs.commonStep(one, other);
        if (common == NONE) {
            latest = BEYOND;
            return -2;
        }
        return granted(Pairs.firstUnlike(one, other, common));
    }

    public int below(int f, int g) {
        Curve one = curveNumbered(f);
        Curve other = curveNumbered(g);
        if (one == null || other == null) {
            return refused(BAD);
        }
        int common = Pairs.commonStep(one, other);
        if (common == NONE) {
            return refused(BEYOND);
        }
        boolean isBelow = !Pairs.outruns(one, other, common) && Pairs.greatestLead(one, other, common) == 0;
        return granted(isBelow ? 1 : 0);
    }

    public int first(int f, long v) {
        Curve one = curveNumbered(f);
        if (one == null || v < 0) {
            return refused(BAD);
        }
        int span = one.firstReaching(v, MOST_SPAN);
        return span == NONE ? refused(ENDLESS) : granted(span);
    }

    public long heap(int f, int g) {
        Curve one = curveNumbered(f);
        Curve other = curveNumbered(g);
        if (one == null || other == null) {
            return refusedAmount(BAD);
        }
        int common = Pairs.commonStep(one, other);
        if (common == NONE) {
            return refusedAmount(BEYOND);
        }
        if (Pairs.outruns(one, other, common)) {
            return refusedAmount(ENDLESS);
        }
        return grantedAmount(Pairs.greatestLead(one, other, common));
    }

    public int wait(int f, int g) {
        Curve one = curveNumbered(f);
        Curve other = curveNumbered(g);
        if (one == null || other == null) {
            return refused(BAD);
        }
        int common = Pairs.commonStep(one, other);
        if (common == NONE) {
            return refused(BEYOND);
        }
        if (Pairs.outruns(one, other, common)) {
            return refused(ENDLESS);
        }
        int longest = Pairs.longestWait(one, other, common);
        return longest == NONE ? refused(ENDLESS) : granted(longest);
    }

    // ---- a run

    public int come(int amount) {
        if (amount < 0 || amount > MOST_COME) {
            return refused(BAD);
        }
        if (run.isFull()) {
            return refused(FULL);
        }
        run.add(amount);
        return granted(run.steps);
    }

    public int hardest(int f, int n) {
        Curve one = curveNumbered(f);
        if (one == null || n < 0 || n > MOST_STEPS || !Run.canFollow(one, n)) {
            return refused(BAD);
        }
        run.follow(one, n);
        return granted(run.steps);
    }

    public int stop() {
        int had = run.steps;
        run.steps = 0;
        return granted(had);
    }

    public int serve(int g) {
        if (curveNumbered(g) == null) {
            return refused(BAD);
        }
        server = g;
        return granted(1);
    }

    public long moved(int side, int t) {
        if (side < 0 || side > 2 || t < 0 || t > MOST_MOVED_SPAN) {
            return refusedAmount(BAD);
        }
        if (side == 0) {
            return grantedAmount(run.arrived(t));
        }
        Curve serving = curveNumbered(server);
        if (serving == null) {
            return refusedAmount(STATE);
        }
        return grantedAmount(side == 1 ? run.passed(serving, t) : run.held(serving, t));
    }

    public int late(int t) {
        if (t < 0 || t > run.steps) {
            return refused(BAD);
        }
        Curve serving = curveNumbered(server);
        if (serving == null) {
            return refused(STATE);
        }
        int lateness = run.lateness(serving, t);
        return lateness == NONE ? refused(ENDLESS) : granted(lateness);
    }

    public long mostHeld() {
        Curve serving = curveNumbered(server);
        if (serving == null) {
            return refusedAmount(STATE);
        }
        return grantedAmount(run.greatestHeld(serving));
    }

    public int mostLate() {
        Curve serving = curveNumbered(server);
        if (serving == null) {
            return refused(STATE);
        }
        int lateness = run.greatestLateness(serving);
        return lateness == NONE ? refused(ENDLESS) : granted(lateness);
    }

    public int keeps(int f) {
        Curve one = curveNumbered(f);
        if (one == null) {
            return refused(BAD);
        }
        return granted(run.staysWithin(one) ? 1 : 0);
    }

    // ---- told

    public int count(int what) {
        switch (what) {
            case 0: return curveCount;
            case 1: return rowCount;
            case 2: return run.steps;
            case 3: return server;
            case 4: return mayUndo ? 1 : 0;
            default: return BAD;
        }
    }

    public int trace(int b) {
        if (b < 0 || b >= KINDS) {
            return BAD;
        }
        return tally.marks(b);
    }

    public int status() {
        return latest;
    }

    public int clear() {
        for (int i = 0; i < curves.length; i++) {
            curves[i] = null;
        }
        curveCount = 0;
        mayUndo = false;
        rowCount = 0;
        run.steps = 0;
        server = NONE;
        return granted(1);
    }

    // ---- within

    private int refused(int why) {
        latest = why;
        return why;
    }

    private long refusedAmount(int why) {
        latest = why;
        return -1;
    }

    private int granted(int answer) {
        latest = 0;
        return answer;
    }

    private long grantedAmount(long answer) {
        latest = 0;
        return answer;
    }

    private Curve curveNumbered(int f) {
        return f < 0 || f >= curveCount || f >= curves.length ? null : curves[f];
    }

    private int kept(Curve made) {
        if (made == null) {
            return refused(BEYOND);
        }
        if (curveCount < 0 || curveCount >= curves.length) {
            return refused(FULL);
        }
        curves[curveCount] = made;
        curveCount++;
        mayUndo = true;
        return granted(curveCount - 1);
    }

    private boolean rowComesRound(int step, int gain) {
        int turn = rowCount - step;
        if (step < 1 || turn < 0 || rowCount > row.length) {
            return false;
        }
        for (int t = 1; t < rowCount; t++) {
            if (row[t] < row[t - 1]) {
                return false;
            }
        }
        return row[turn] + gain >= row[rowCount - 1];
    }

    /** How often each body was asked by at(). */
    private static final class Tally {
        private final int[] marks = new int[KINDS];

        void mark(int body) {
            if (body >= 0 && body < marks.length) {
                marks[body]++;
            }
        }

        int marks(int body) {
            return body < 0 || body >= marks.length ? 0 : marks[body];
        }
    }

    /** A CURVE: its AMOUNTS below START + STEP, from where on it comes round. It never changes. */
    private static class Curve {
        final int start;
        final int step;
        final int gain;
        final long[] amounts;

        Curve(int start, int step, int gain, long[] amounts) {
            this.start = start;
            this.step = step;
            this.gain = gain;
            this.amounts = amounts;
        }

        int kind() {
            return KIND_CURVE;
        }

        /** The body that at() asks; each kind has its own. */
        long asked(int t, Tally tally) {
            tally.mark(KIND_CURVE);
            return amount(t);
        }

        /** f(t) as the bench itself needs it: of any kind, and not counted by TRACE. */
        final long amount(int t) {
            if (t < 0 || step < 1) {
                return 0;
            }
            if (t < amounts.length) {
                return amounts[t];
            }
            int past = t - start;
            int place = start + past % step;
            if (place < 0 || place >= amounts.length) {
                return 0;
            }
            return amounts[place] + (long) (past / step) * gain;
        }

        /** The GAIN of a whole number of STEPS that make up the span. */
        final long gainIn(int span) {
            return step < 1 ? 0 : (long) gain * (span / step);
        }

        final int sharedByGainAndStep() {
            for (int d = step; d > 1; d--) {
                if (gain % d == 0 && step % d == 0) {
                    return d;
                }
            }
            return 1;
        }

        /** The least span up to the last one with an amount of v or above, or NONE. */
        final int firstReaching(long v, int last) {
            int under = -1;
            for (int bit = 30; bit >= 0; bit--) {
                int next = under + (1 << bit);
                if (next <= last && amount(next) < v) {
                    under = next;
                }
            }
            return under < last ? under + 1 : NONE;
        }

        /** Spans from START + STEP on tell what the ones a STEP earlier tell, so those below are enough. */
        final boolean isClosed() {
            if (amount(0) != 0) {
                return false;
            }
            for (int s = 1; s < amounts.length; s++) {
                for (int t = s; t < amounts.length; t++) {
                    if (amount(s + t) > amounts[s] + amounts[t]) {
                        return false;
                    }
                }
            }
            return true;
        }
    }

    private static class Ray extends Curve {
        Ray(int start, int step, int gain, long[] amounts) {
            super(start, step, gain, amounts);
        }

        int kind() {
            return KIND_RAY;
        }

        long asked(int t, Tally tally) {
            tally.mark(KIND_RAY);
            return (long) gain * t;
        }
    }

    private static final class Burst extends Ray {
        private final long lead;

        Burst(int start, int step, int gain, long[] amounts, long lead) {
            super(start, step, gain, amounts);
            this.lead = lead;
        }

        int kind() {
            return KIND_BURST;
        }

        long asked(int t, Tally tally) {
            tally.mark(KIND_BURST);
            long along = super.asked(t, tally);
            return t == 0 ? 0 : along + lead;
        }
    }

    private static final class Late extends Curve {
        Late(int start, int step, int gain, long[] amounts) {
            super(start, step, gain, amounts);
        }

        int kind() {
            return KIND_LATE;
        }

        long asked(int t, Tally tally) {
            tally.mark(KIND_LATE);
            return t <= start ? 0 : (long) gain * (t - start);
        }
    }

    private static final class Stair extends Curve {
        Stair(int start, int step, int gain, long[] amounts) {
            super(start, step, gain, amounts);
        }

        int kind() {
            return KIND_STAIR;
        }

        long asked(int t, Tally tally) {
            tally.mark(KIND_STAIR);
            return step < 1 ? 0 : (long) gain * (t / step);
        }
    }

    /**
     * Makes CURVES, or null for one that is BEYOND. Each is first laid as a row of AMOUNTS, up to two
     * turns (a span by which it comes round, its STEP or more of them) behind some span from which on
     * it comes round; then it is brought to its least terms.
     */
    private static final class Maker {
        // BOTH needs most: two STARTS and three turns.
        private static final int ROOM = 600;

        private final long[] made = new long[ROOM];
        private final long[] one = new long[ROOM];
        private final long[] other = new long[ROOM];

        Curve fromRow(long[] row, int length, int step, int gain) {
            int from = length - step;
            if (step < 1 || from < 0 || length > row.length || length + step > ROOM) {
                return null;
            }
            for (int t = 0; t < length; t++) {
                made[t] = row[t];
            }
            for (int t = length; t < length + step; t++) {
                made[t] = made[t - step] + gain;
            }
            return settled(from, step);
        }

        Curve straight(int gain) {
            made[0] = 0;
            made[1] = gain;
            return settled(0, 1);
        }

        Curve multiplied(Curve f, int n) {
            int end = Math.min(f.start + 2 * f.step, ROOM);
            for (int t = 0; t < end; t++) {
                made[t] = f.amount(t) * n;
            }
            return settled(f.start, f.step);
        }

        Curve delayed(Curve f, int n) {
            int end = Math.min(n + f.start + 2 * f.step, ROOM);
            for (int t = 0; t < end; t++) {
                made[t] = t < n ? 0 : f.amount(t - n);
            }
            return settled(n + f.start, f.step);
        }

        /**
         * One turn from 'from' on tells whether the new curve comes round from there on: a part of it
         * that leads there with another gain than the whole breaks the turn at once, and one with the
         * gain of the whole leads for ever. NOTES.md tells it for each way.
         */
        Curve fromBoth(int way, Curve f, Curve g, int turn) {
            int from = way == BOTH ? Math.max(MOST_START, f.start + g.start + turn) : MOST_START;
            int end = from + 2 * turn;
            if (turn < 1 || end > ROOM) {
                return null;
            }
            spread(f, one);
            spread(g, other);
            switch (way) {
                case SUM:
                case LEAST:
                case MOST: laySideBySide(way, end); break;
                case REST: layRest(end); break;
                case BOTH: layBoth(end, f.start + turn, g.start + turn); break;
                case OFF: layOff(end, Math.max(f.start, g.start) + turn); break;
                default: return null;
            }
            if (!comesRound(from, turn, gainOf(way, f.gainIn(turn), g.gainIn(turn)))) {
                return null;
            }
            return settled(from, turn);
        }

        private static long gainOf(int way, long gainOne, long gainOther) {
            switch (way) {
                case SUM: return gainOne + gainOther;
                case MOST: return Math.max(gainOne, gainOther);
                case REST: return Math.max(0, gainOne - gainOther);
                case OFF: return gainOne;
                default: return Math.min(gainOne, gainOther);
            }
        }

        private static void spread(Curve f, long[] amounts) {
            for (int t = 0; t < amounts.length; t++) {
                amounts[t] = f.amount(t);
            }
        }

        private void laySideBySide(int way, int end) {
            for (int t = 0; t < end && t < ROOM; t++) {
                if (way == SUM) {
                    made[t] = one[t] + other[t];
                } else if (way == LEAST) {
                    made[t] = Math.min(one[t], other[t]);
                } else {
                    made[t] = Math.max(one[t], other[t]);
                }
            }
        }

        private void layRest(int end) {
            long greatest = 0;
            for (int t = 0; t < end && t < ROOM; t++) {
                greatest = Math.max(greatest, one[t] - other[t]);
                made[t] = greatest;
            }
        }

        private void layBoth(int end, int nearOne, int nearOther) {
            for (int t = 0; t < end && t < ROOM; t++) {
                made[t] = leastTogether(t, nearOne, nearOther);
            }
        }

        /**
         * Where s and t - s both are far, moving a turn to the one of the curve with the lesser RATE
         * makes the sum no greater: so it is enough to look where one is near (below its START and
         * a turn).
         */
        private long leastTogether(int t, int nearOne, int nearOther) {
            if (t < 0 || t >= ROOM) {
                return 0;
            }
            long least = one[t] + other[0];
            int head = Math.min(nearOne, t + 1);
            for (int s = 0; s < head; s++) {
                least = Math.min(least, one[s] + other[t - s]);
            }
            for (int u = 1; u < nearOther && u <= t; u++) {
                least = Math.min(least, one[t - u] + other[u]);
            }
            return least;
        }

        /** Behind both STARTS and a turn f gains no more on g, as its rate is not above that of g. */
        private void layOff(int end, int reach) {
            for (int t = 0; t < end && t < ROOM; t++) {
                long greatest = 0;
                for (int u = 0; u < reach && t + u < ROOM; u++) {
                    greatest = Math.max(greatest, one[t + u] - other[u]);
                }
                made[t] = greatest;
            }
        }

        private boolean comesRound(int from, int turn, long gain) {
            for (int t = Math.max(0, from); t < from + turn; t++) {
                if (turn < 0 || t + turn >= ROOM || made[t + turn] != made[t] + gain) {
                    return false;
                }
            }
            return true;
        }

        /** The curve that is laid and comes round by a turn from a span on, in its least terms. */
        private Curve settled(int from, int turn) {
            if (from < 0 || turn < 1 || from + 2 * turn > ROOM) {
                return null;
            }
            int step = leastStep(from, turn);
            long gain = made[from + step] - made[from];
            int start = from;
            for (int t = from - 1; t >= 0 && made[t + step] == made[t] + gain; t--) {
                start = t;
            }
            int end = start + step;
            if (start > MOST_START || step > MOST_STEP || gain > MOST_GAIN || made[end - 1] > MOST_AMOUNT) {
                return null;
            }
            return ofItsKind(start, step, (int) gain, Arrays.copyOf(made, end));
        }

        private int leastStep(int from, int turn) {
            for (int step = 1; step < turn; step++) {
                if (alsoComesRoundBy(step, from, turn)) {
                    return step;
                }
            }
            return turn;
        }

        private boolean alsoComesRoundBy(int step, int from, int turn) {
            if (from < 0 || step < 1 || turn < 1 || from + turn + step > ROOM) {
                return false;
            }
            long gain = made[from + step] - made[from];
            for (int t = from; t < from + turn; t++) {
                if (made[t + step] != made[t] + gain) {
                    return false;
                }
            }
            return true;
        }

        private static Curve ofItsKind(int start, int step, int gain, long[] amounts) {
            boolean fromZero = amounts.length > 0 && amounts[0] == 0;
            boolean zero = amounts.length > 0 && amounts[amounts.length - 1] == 0;
            if (step == 1 && start == 1 && fromZero && amounts.length == 2 && amounts[1] > gain) {
                return new Burst(start, step, gain, amounts, amounts[1] - gain);
            }
            if (step == 1 && start == 0 && zero) {
                return new Ray(start, step, gain, amounts);
            }
            if (step == 1 && start > 0 && zero && gain > 0) {
                return new Late(start, step, gain, amounts);
            }
            if (step > 1 && start == 0 && zero && gain > 0) {
                return new Stair(start, step, gain, amounts);
            }
            return new Curve(start, step, gain, amounts);
        }
    }

    /** What is told of two CURVES. A turn is their STEPS' least common multiple. */
    private static final class Pairs {
        /** The turn, or NONE where it is above MOST_STEP. */
        static int commonStep(Curve f, Curve g) {
            if (f.step < 1 || g.step < 1) {
                return NONE;
            }
            for (int turn = f.step; turn <= MOST_STEP; turn += f.step) {
                if (turn % g.step == 0) {
                    return turn;
                }
            }
            return NONE;
        }

        /** Whether the RATE of f is above that of g. */
        static boolean outruns(Curve f, Curve g, int turn) {
            return f.gainIn(turn) > g.gainIn(turn);
        }

        /** From this span on nothing new is to be learned of f against g. */
        private static int settledSpan(Curve f, Curve g, int turn) {
            return Math.max(f.start, g.start) + turn;
        }

        /** The last span looked at tells whether the gains are the same. */
        static int firstUnlike(Curve f, Curve g, int turn) {
            int last = settledSpan(f, g, turn);
            for (int t = 0; t <= last; t++) {
                if (f.amount(t) != g.amount(t)) {
                    return t;
                }
            }
            return NONE;
        }

        /** The greatest f(t) - g(t), 0 at least, where f doesn't outrun g. */
        static long greatestLead(Curve f, Curve g, int turn) {
            int end = settledSpan(f, g, turn);
            long greatest = 0;
            for (int t = 0; t < end; t++) {
                greatest = Math.max(greatest, f.amount(t) - g.amount(t));
            }
            return greatest;
        }

        /** WAIT where f doesn't outrun g, or NONE where it is above MOST_SPAN or there is none. */
        static int longestWait(Curve f, Curve g, int turn) {
            int end = settledSpan(f, g, turn);
            int longest = 0;
            for (int t = 0; t < end; t++) {
                long due = f.amount(t);
                if (g.amount(t + longest) < due) {
                    int reached = g.firstReaching(due, t + MOST_SPAN);
                    if (reached == NONE) {
                        return NONE;
                    }
                    longest = reached - t;
                }
            }
            return longest;
        }
    }

    /** What COMES: came[t] is what came in the STEPS 1 to t together. */
    private static final class Run {
        private final long[] came = new long[MOST_STEPS + 1];
        private int steps = 0;

        boolean isFull() {
            return steps < 0 || steps + 1 >= came.length;
        }

        void add(long amount) {
            if (!isFull()) {
                came[steps + 1] = came[steps] + amount;
                steps++;
            }
        }

        private static long hardestStep(Curve f, int t) {
            return t == 1 ? f.amount(1) : f.amount(t) - f.amount(t - 1);
        }

        static boolean canFollow(Curve f, int n) {
            for (int t = 1; t <= n; t++) {
                if (hardestStep(f, t) > MOST_COME) {
                    return false;
                }
            }
            return true;
        }

        void follow(Curve f, int n) {
            steps = 0;
            for (int t = 1; t <= n; t++) {
                add(hardestStep(f, t));
            }
        }

        /** A(t). */
        long arrived(int t) {
            int step = Math.min(t, steps);
            return step < 0 || step >= came.length ? 0 : came[step];
        }

        /** B(t). Behind the last step A(s) + g(t - s) is no less than A(t). */
        long passed(Curve g, int t) {
            long least = arrived(t);
            for (int s = 0; s <= t && s <= steps; s++) {
                least = Math.min(least, arrived(s) + g.amount(t - s));
            }
            return least;
        }

        long held(Curve g, int t) {
            return arrived(t) - passed(g, t);
        }

        /** LATE at t, or NONE. B never falls, so the greatest w that is not yet enough is sought. */
        int lateness(Curve g, int t) {
            long due = arrived(t);
            int early = -1;
            for (int bit = 8; bit >= 0; bit--) {
                int next = early + (1 << bit);
                if (next <= MOST_LATE && passed(g, t + next) < due) {
                    early = next;
                }
            }
            return early < MOST_LATE ? early + 1 : NONE;
        }

        long greatestHeld(Curve g) {
            long greatest = 0;
            for (int t = 0; t <= steps; t++) {
                greatest = Math.max(greatest, held(g, t));
            }
            return greatest;
        }

        int greatestLateness(Curve g) {
            int greatest = 0;
            for (int t = 0; t <= steps; t++) {
                int lateness = lateness(g, t);
                if (lateness == NONE) {
                    return NONE;
                }
                greatest = Math.max(greatest, lateness);
            }
            return greatest;
        }

        boolean staysWithin(Curve f) {
            for (int t = 0; t <= steps; t++) {
                for (int s = 0; s <= t; s++) {
                    if (arrived(t) - arrived(s) > f.amount(t - s)) {
                        return false;
                    }
                }
            }
            return true;
        }
    }
}
