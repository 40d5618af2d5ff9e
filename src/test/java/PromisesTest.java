/** Each promise of the document by its number: ordinary inputs, the edges that it names, wrong inputs. */
public final class PromisesTest {
    private static final long TOP = 1000000000000L;
    private static final int BILLION = 1000000000;
    private static int wrong = 0;

    public static void main(String[] args) {
        aNewObject();
        put();
        draw();
        drop();
        curve();
        curveLimits();
        ray();
        sums();
        leastAndMost();
        rest();
        both();
        off();
        ofRefusals();
        fullBench();
        times();
        shift();
        undo();
        at();
        about();
        kinds();
        closed();
        rate();
        unlike();
        below();
        first();
        heap();
        waits();
        come();
        hardest();
        stop();
        serve();
        moved();
        late();
        mostHeldAndLate();
        keeps();
        count();
        trace();
        status();
        clear();
        System.out.println("PromisesTest: " + wrong + " wrong");
        if (wrong != 0) {
            System.exit(1);
        }
    }

    private static void due(int promise, String what, long got, long want) {
        if (got != want) {
            wrong++;
            System.out.println("promise " + promise + ": " + what + " answered " + got + ", due is " + want);
        }
    }

    private static void refused(FlowCurves x, int promise, String what, long got, long want, int status) {
        due(promise, what, got, want);
        due(promise, "status() of " + what, x.status(), status);
    }

    private static int made(FlowCurves x, int step, int gain, long... amounts) {
        for (long amount : amounts) {
            x.put(amount);
        }
        return x.curve(step, gain);
    }

    /** A curve that is 0, then 'burst' at 1, then grows by the gain each span. */
    private static int burst(FlowCurves x, long burst, int gain) {
        return made(x, 1, gain, 0, burst);
    }

    /** 0 up to the span, then it grows by the gain each span. */
    private static int lateCurve(FlowCurves x, int span, int gain) {
        for (int i = 0; i <= span; i++) {
            x.put(0);
        }
        return x.curve(1, gain);
    }

    private static int stair(FlowCurves x, int step, int gain) {
        for (int i = 0; i < step; i++) {
            x.put(0);
        }
        return x.curve(step, gain);
    }

    private static void amounts(FlowCurves x, int promise, String what, int f, long... wanted) {
        for (int t = 0; t < wanted.length; t++) {
            due(promise, what + " at " + t, x.at(f, t), wanted[t]);
        }
    }

    private static void terms(FlowCurves x, int promise, String what, int f, int start, int step, int gain) {
        due(promise, what + " START", x.about(f, 0), start);
        due(promise, what + " STEP", x.about(f, 1), step);
        due(promise, what + " GAIN", x.about(f, 2), gain);
    }

    private static void aNewObject() {
        FlowCurves x = new FlowCurves();
        due(1, "status()", x.status(), 0);
        due(1, "count(0)", x.count(0), 0);
        due(1, "count(1)", x.count(1), 0);
        due(1, "count(2)", x.count(2), 0);
        due(1, "count(3)", x.count(3), -1);
        due(1, "count(4)", x.count(4), 0);
        due(1, "moved(0, 600)", x.moved(0, 600), 0);
        for (int b = 0; b < 5; b++) {
            due(1, "trace(" + b + ")", x.trace(b), 0);
        }
        x.ray(1);
        due(1, "another object's count(0)", new FlowCurves().count(0), 0);
    }

    private static void put() {
        FlowCurves x = new FlowCurves();
        due(2, "put(0)", x.put(0), 1);
        due(2, "put(TOP)", x.put(TOP), 2);
        refused(x, 2, "put(-1)", x.put(-1), -1, FlowCurves.BAD);
        refused(x, 2, "put(TOP + 1)", x.put(TOP + 1), -1, FlowCurves.BAD);
        refused(x, 2, "put(least long)", x.put(Long.MIN_VALUE), -1, FlowCurves.BAD);
        due(2, "put(3), less than the last", x.put(3), 3);
        due(2, "status()", x.status(), 0);
        for (int i = 3; i < 300; i++) {
            due(2, "put(7)", x.put(7), i + 1);
        }
        refused(x, 2, "put(7) to a full row", x.put(7), -3, FlowCurves.FULL);
        refused(x, 2, "put(-1) to a full row", x.put(-1), -1, FlowCurves.BAD);
        due(2, "count(1)", x.count(1), 300);
    }

    private static void draw() {
        FlowCurves x = new FlowCurves();
        // z is 12345, 1406932606, 654583775: z >> 8 is 48, 5495830, 2556967.
        due(3, "draw(3, 0, 9)", x.draw(3, 0, 9), 3);
        int f = x.curve(1, 0);
        amounts(x, 3, "drawn", f, 8, 8, 15);
        x.put(100);
        due(3, "draw(2, 0, 9) behind 100", x.draw(2, 0, 9), 3);
        f = x.curve(1, 0);
        amounts(x, 3, "drawn", f, 100, 108, 108);
        due(3, "draw(2, -1, 1000000)", x.draw(2, -1, 1000000), 2);
        f = x.curve(1, 0);
        // z is -1103515245 + 12345 modulo 2^31 = 1043980748, then 1479444085.
        amounts(x, 3, "drawn from -1", f, 1043980748L / 256 % 1000001,
            1043980748L / 256 % 1000001 + next(1043980748L) / 256 % 1000001);
        refused(x, 3, "draw(0, ..)", x.draw(0, 1, 1), -1, FlowCurves.BAD);
        refused(x, 3, "draw(301, ..)", x.draw(301, 1, 1), -1, FlowCurves.BAD);
        refused(x, 3, "draw(.., -1)", x.draw(1, 1, -1), -1, FlowCurves.BAD);
        refused(x, 3, "draw(.., 1000001)", x.draw(1, 1, 1000001), -1, FlowCurves.BAD);
        due(3, "draw(1, 1, 0)", x.draw(1, 1, 0), 1);
        refused(x, 3, "draw(300, ..) behind one", x.draw(300, 1, 1), -3, FlowCurves.FULL);
        due(3, "count(1)", x.count(1), 1);
        due(3, "draw(299, ..)", x.draw(299, 1, 1), 300);
        refused(x, 3, "draw(1, ..) to a full row", x.draw(1, 1, 1), -3, FlowCurves.FULL);
        refused(x, 3, "draw(0, ..) to a full row", x.draw(0, 1, 1), -1, FlowCurves.BAD);
    }

    private static long next(long z) {
        return (z * 1103515245L + 12345L) % 2147483648L;
    }

    private static void drop() {
        FlowCurves x = new FlowCurves();
        due(4, "drop() of none", x.drop(), 0);
        x.put(1);
        x.put(2);
        due(4, "drop()", x.drop(), 2);
        due(4, "count(1)", x.count(1), 0);
        due(4, "drop() again", x.drop(), 0);
        due(4, "put(0) behind it", x.put(0), 1);
    }

    private static void curve() {
        FlowCurves x = new FlowCurves();
        due(5, "curve", made(x, 2, 3, 1, 1, 4, 4), 0);
        due(5, "the row behind it", x.count(1), 0);
        terms(x, 5, "curve", 0, 0, 2, 3);
        amounts(x, 5, "curve", 0, 1, 1, 4, 4, 7, 7, 10);
        due(5, "curve", made(x, 1, 5, 9), 1);
        amounts(x, 5, "curve", 1, 9, 14, 19);
        due(5, "a STEP of four that is two", made(x, 4, 6, 0, 1, 3, 4), 2);
        terms(x, 5, "a STEP of four that is two", 2, 0, 2, 3);
        due(5, "a STEP of six that is three", made(x, 6, 4, 0, 0, 1, 2, 2, 3), 3);
        terms(x, 5, "a STEP of six that is three", 3, 0, 3, 2);
        due(5, "START of five that is two", made(x, 1, 2, 0, 9, 10, 12, 14, 16), 4);
        terms(x, 5, "START of five that is two", 4, 2, 1, 2);
        refused(x, 5, "curve(1, 0) of none", x.curve(1, 0), -2, FlowCurves.STATE);
        x.put(4);
        x.put(6);
        refused(x, 5, "curve(0, 0)", x.curve(0, 0), -1, FlowCurves.BAD);
        refused(x, 5, "curve(61, 0)", x.curve(61, 0), -1, FlowCurves.BAD);
        refused(x, 5, "curve(1, -1)", x.curve(1, -1), -1, FlowCurves.BAD);
        refused(x, 5, "curve(1, BILLION + 1)", x.curve(1, BILLION + 1), -1, FlowCurves.BAD);
        refused(x, 5, "curve(3, 0) of two", x.curve(3, 0), -2, FlowCurves.STATE);
        refused(x, 5, "curve(2, 1) that falls at 2", x.curve(2, 1), -2, FlowCurves.STATE);
        due(5, "the row behind refusals", x.count(1), 2);
        due(5, "curve(2, 2)", x.curve(2, 2), 5);
        amounts(x, 5, "curve", 5, 4, 6, 6, 8, 8, 10);
        refused(x, 5, "a row that falls", made(x, 1, 9, 5, 4, 6), -2, FlowCurves.STATE);
        due(5, "count(0)", x.count(0), 6);
    }

    private static void curveLimits() {
        FlowCurves x = new FlowCurves();
        x.draw(200, 1, 0);
        x.put(1);
        due(5, "START 200", x.curve(1, 0), 0);
        terms(x, 5, "START 200", 0, 200, 1, 0);
        x.draw(201, 1, 0);
        x.put(1);
        refused(x, 5, "START 201", x.curve(1, 0), -4, FlowCurves.BEYOND);
        due(5, "the row behind it", x.count(1), 202);
        x.drop();
        x.draw(300, 1, 0);
        due(5, "a row of 300 zeros", x.curve(60, 0), 1);
        terms(x, 5, "zeros", 1, 0, 1, 0);
        x.draw(59, 1, 0);
        x.put(7);
        due(5, "a STEP of sixty", x.curve(60, BILLION), 2);
        terms(x, 5, "a STEP of sixty", 2, 0, 60, BILLION);
        due(5, "TOP", made(x, 1, BILLION, TOP), 3);
        due(5, "TOP grows", x.at(3, 2), TOP + 2000000000L);
        x.put(TOP);
        x.draw(2, 1, 1000000);
        refused(x, 5, "drawn above TOP", x.curve(1, 0), -4, FlowCurves.BEYOND);
        x.drop();
        x.put(TOP - 5);
        x.put(TOP + 0);
        x.draw(1, 0, 0);
        due(5, "TOP at START", x.curve(1, 0), 4);
        terms(x, 5, "TOP at START", 4, 1, 1, 0);
    }

    private static void ray() {
        FlowCurves x = new FlowCurves();
        due(6, "ray(0)", x.ray(0), 0);
        due(6, "ray(BILLION)", x.ray(BILLION), 1);
        amounts(x, 6, "ray", 1, 0, BILLION, 2L * BILLION);
        terms(x, 6, "ray", 1, 0, 1, BILLION);
        terms(x, 6, "ray(0)", 0, 0, 1, 0);
        refused(x, 6, "ray(-1)", x.ray(-1), -1, FlowCurves.BAD);
        refused(x, 6, "ray(BILLION + 1)", x.ray(BILLION + 1), -1, FlowCurves.BAD);
        x.put(3);
        due(6, "ray leaves the row", x.ray(3) + 10 * x.count(1), 12);
    }

    private static void sums() {
        FlowCurves x = new FlowCurves();
        int a = stair(x, 2, 3);
        int b = stair(x, 3, 5);
        int sum = x.of(0, a, b);
        amounts(x, 7, "SUM", sum, 0, 0, 3, 8, 11, 11, 19, 19, 22);
        terms(x, 7, "SUM", sum, 0, 6, 19);
        int odd = made(x, 2, 2, 0, 2);
        int even = made(x, 2, 2, 0, 0);
        int even2 = x.of(0, odd, even);
        terms(x, 7, "SUM", even2, 0, 1, 2);
        int most = x.ray(BILLION);
        int one = x.ray(1);
        refused(x, 7, "SUM with GAIN above", x.of(0, most, one), -4, FlowCurves.BEYOND);
        int top = made(x, 1, 0, TOP);
        refused(x, 7, "SUM above TOP", x.of(0, top, made(x, 1, 0, 1)), -4, FlowCurves.BEYOND);
        due(7, "SUM of TOP and ray", x.of(0, top, one), x.count(0) - 1);
        due(7, "a STEP of TOP and ray", x.about(x.count(0) - 1, 0), 0);
    }

    private static void leastAndMost() {
        FlowCurves x = new FlowCurves();
        int flat = made(x, 1, 0, 200);
        int one = x.ray(1);
        int least = x.of(1, flat, one);
        terms(x, 7, "LEAST that crosses at 200", least, 200, 1, 0);
        due(7, "LEAST at 199", x.at(least, 199), 199);
        due(7, "LEAST at 201", x.at(least, 201), 200);
        int most = x.of(2, flat, one);
        terms(x, 7, "MOST that crosses at 200", most, 200, 1, 1);
        due(7, "MOST at 199", x.at(most, 199), 200);
        due(7, "MOST at 201", x.at(most, 201), 201);
        int flatter = made(x, 1, 0, 201);
        refused(x, 7, "LEAST that crosses at 201", x.of(1, flatter, one), -4, FlowCurves.BEYOND);
        refused(x, 7, "MOST that crosses at 201", x.of(2, one, flatter), -4, FlowCurves.BEYOND);
        int top = made(x, 1, 0, TOP);
        refused(x, 7, "LEAST that crosses at TOP", x.of(1, one, top), -4, FlowCurves.BEYOND);
        int far = stair(x, 60, 59);
        int near = x.of(1, far, one);
        due(7, "LEAST of STAIR and a faster RAY", x.unlike(near, far), -1);
        int shifted = x.shift(far, 30);
        int alternate = x.of(1, far, shifted);
        due(7, "LEAST of the shifted", x.unlike(alternate, shifted), -1);
        due(7, "MOST of the shifted", x.unlike(x.of(2, far, shifted), far), -1);
    }

    private static void rest() {
        FlowCurves x = new FlowCurves();
        int bucket = burst(x, 10, 2);
        int late = lateCurve(x, 3, 3);
        int rest = x.of(3, bucket, late);
        amounts(x, 7, "REST", rest, 0, 10, 12, 14, 14, 14, 14, 14);
        terms(x, 7, "REST", rest, 3, 1, 0);
        int back = x.of(3, late, bucket);
        amounts(x, 7, "REST, faster", back, 0, 0, 0, 0, 0, 0, 0, 0);
        due(7, "REST crosses", x.first(back, 1), 18);
        terms(x, 7, "REST crosses", back, 17, 1, 1);
        int one = x.ray(1);
        refused(x, 7, "REST crosses at 201", x.of(3, one, made(x, 1, 0, 201)), -4, FlowCurves.BEYOND);
        terms(x, 7, "REST crosses at 200", x.of(3, one, made(x, 1, 0, 200)), 200, 1, 1);
        int none = x.of(3, x.ray(0), one);
        terms(x, 7, "REST below 0", none, 0, 1, 0);
    }

    private static void both() {
        FlowCurves x = new FlowCurves();
        int a = made(x, 2, 3, 0, 1, 1, 4, 4);
        int b = made(x, 3, 5, 0, 0, 2);
        int both = x.of(4, a, b);
        amounts(x, 7, "BOTH", both, 0, 0, 1, 1, 3, 4);
        terms(x, 7, "BOTH", both, 3, 2, 3);
        due(7, "BOTH at 30", x.at(both, 30), 42);
        int one = x.ray(1);
        int step = made(x, 1, 0, 0, 200);
        terms(x, 7, "BOTH crosses at 200", x.of(4, step, one), 200, 1, 0);
        int far = made(x, 1, 0, 0, 201);
        refused(x, 7, "BOTH crosses at 201", x.of(4, far, one), -4, FlowCurves.BEYOND);
        refused(x, 7, "BOTH crosses at 201, turned", x.of(4, one, far), -4, FlowCurves.BEYOND);
        int late = lateCurve(x, 150, 2);
        int later = lateCurve(x, 60, 3);
        refused(x, 7, "BOTH of LATE 150 and 60", x.of(4, late, later), -4, FlowCurves.BEYOND);
        terms(x, 7, "BOTH of LATE 150 and 50", x.of(4, late, lateCurve(x, 50, 3)), 200, 1, 2);
        for (int t = 0; t <= 160; t++) {
            x.put(Math.min(t, 150));
        }
        int paused = x.curve(1, 1);
        refused(x, 7, "BOTH that pauses again at 310", x.of(4, paused, paused), -4, FlowCurves.BEYOND);
        int high = made(x, 1, 0, 7);
        int low = made(x, 1, 0, 5);
        amounts(x, 7, "BOTH of flat ones", x.of(4, high, low), 12, 12, 12);
    }

    private static void off() {
        FlowCurves x = new FlowCurves();
        int bucket = burst(x, 9, 2);
        int late = lateCurve(x, 2, 4);
        int off = x.of(5, bucket, late);
        amounts(x, 7, "OFF", off, 11, 13, 15, 17);
        terms(x, 7, "OFF", off, 0, 1, 2);
        refused(x, 7, "OFF of the faster", x.of(5, late, bucket), -5, FlowCurves.ENDLESS);
        int one = x.ray(1);
        int over = made(x, 1, 1, 200);
        terms(x, 7, "OFF below 0 up to 200", x.of(5, one, over), 200, 1, 1);
        int above = made(x, 1, 1, 201);
        refused(x, 7, "OFF below 0 up to 201", x.of(5, one, above), -4, FlowCurves.BEYOND);
        int none = x.of(5, made(x, 1, 0, 3), made(x, 1, 0, 5));
        terms(x, 7, "OFF below 0 for ever", none, 0, 1, 0);
        due(7, "OFF below 0 for ever", x.at(none, 5), 0);
        int a = stair(x, 5, 2);
        int same = x.of(5, a, a);
        amounts(x, 7, "OFF of STAIR by itself", same, 0, 2, 2, 2, 2, 2, 4);
    }

    private static void ofRefusals() {
        FlowCurves x = new FlowCurves();
        int seven = stair(x, 7, 100);
        int nine = stair(x, 9, 1);
        int eight = stair(x, 8, 1);
        refused(x, 7, "P 63", x.of(0, seven, nine), -4, FlowCurves.BEYOND);
        refused(x, 7, "P 63, OFF of the faster", x.of(5, seven, nine), -4, FlowCurves.BEYOND);
        due(7, "P 56", x.of(0, seven, eight), 3);
        refused(x, 7, "way 6", x.of(6, seven, eight), -1, FlowCurves.BAD);
        refused(x, 7, "way -1", x.of(-1, seven, eight), -1, FlowCurves.BAD);
        refused(x, 7, "no f", x.of(0, 4, eight), -1, FlowCurves.BAD);
        refused(x, 7, "no g", x.of(0, seven, -1), -1, FlowCurves.BAD);
        refused(x, 7, "way 6 with P 63", x.of(6, seven, nine), -1, FlowCurves.BAD);
        int steep = x.ray(BILLION);
        int top = made(x, 1, 0, TOP);
        refused(x, 7, "OFF ENDLESS ahead of BEYOND", x.of(5, steep, top), -5, FlowCurves.ENDLESS);
        due(7, "count(0)", x.count(0), 6);
    }

    private static void fullBench() {
        FlowCurves x = new FlowCurves();
        x.draw(7, 1, 0);
        x.curve(7, 3);
        x.draw(9, 1, 0);
        x.curve(9, 3);
        x.draw(201, 1, 0);
        x.put(1);
        for (int i = 2; i < 60; i++) {
            due(6, "ray", x.ray(BILLION), i);
        }
        refused(x, 6, "ray, full", x.ray(1), -3, FlowCurves.FULL);
        refused(x, 6, "ray, BAD ahead of FULL", x.ray(-1), -1, FlowCurves.BAD);
        refused(x, 5, "curve, FULL ahead of BEYOND", x.curve(1, 0), -3, FlowCurves.FULL);
        refused(x, 5, "curve, BAD ahead of FULL", x.curve(0, 0), -1, FlowCurves.BAD);
        x.put(0);
        refused(x, 5, "curve, STATE ahead of FULL", x.curve(1, 0), -2, FlowCurves.STATE);
        refused(x, 7, "of, full", x.of(1, 0, 0), -3, FlowCurves.FULL);
        refused(x, 7, "of, FULL ahead of P", x.of(0, 0, 1), -3, FlowCurves.FULL);
        refused(x, 7, "of, FULL ahead of ENDLESS", x.of(5, 2, 0), -3, FlowCurves.FULL);
        refused(x, 7, "of, BAD ahead of FULL", x.of(0, 60, 1), -1, FlowCurves.BAD);
        refused(x, 8, "times, FULL ahead of BEYOND", x.times(2, 2), -3, FlowCurves.FULL);
        refused(x, 8, "times, BAD ahead of FULL", x.times(2, 1001), -1, FlowCurves.BAD);
        refused(x, 9, "shift, full", x.shift(2, 1), -3, FlowCurves.FULL);
        refused(x, 9, "shift, BAD ahead of FULL", x.shift(2, 201), -1, FlowCurves.BAD);
        due(10, "undo() of the 60th", x.undo(), 59);
        due(6, "ray again", x.ray(1), 59);
    }

    private static void times() {
        FlowCurves x = new FlowCurves();
        int a = made(x, 2, 3, 1, 2, 4);
        int b = x.times(a, 5);
        amounts(x, 8, "TIMES 5", b, 5, 10, 20, 25, 35);
        terms(x, 8, "TIMES 5", b, 0, 2, 15);
        int none = x.times(a, 0);
        terms(x, 8, "TIMES 0", none, 0, 1, 0);
        due(8, "TIMES 0 is a RAY", x.about(none, 3), 2);
        due(8, "TIMES 1", x.unlike(x.times(a, 1), a), -1);
        due(8, "TIMES 1000", x.at(x.times(a, 1000), 1), 2000);
        refused(x, 8, "TIMES -1", x.times(a, -1), -1, FlowCurves.BAD);
        refused(x, 8, "TIMES 1001", x.times(a, 1001), -1, FlowCurves.BAD);
        refused(x, 8, "no curve", x.times(5, 1), -1, FlowCurves.BAD);
        int million = x.ray(1000000);
        due(8, "GAIN 1000000000", x.times(million, 1000), 6);
        refused(x, 8, "GAIN above", x.times(x.ray(1000001), 1000), -4, FlowCurves.BEYOND);
        int top = made(x, 1, 0, TOP / 1000);
        due(8, "TOP", x.times(top, 1000), 9);
        refused(x, 8, "above TOP", x.times(made(x, 1, 0, TOP), 2), -4, FlowCurves.BEYOND);
    }

    private static void shift() {
        FlowCurves x = new FlowCurves();
        int a = made(x, 1, 2, 1, 4);
        int b = x.shift(a, 2);
        amounts(x, 9, "SHIFTED by 2", b, 0, 0, 1, 4, 6, 8);
        terms(x, 9, "SHIFTED by 2", b, 3, 1, 2);
        due(9, "SHIFTED by 0", x.unlike(x.shift(a, 0), a), -1);
        due(9, "SHIFTED by 199", x.about(x.shift(a, 199), 0), 200);
        refused(x, 9, "SHIFTED by 200", x.shift(a, 200), -4, FlowCurves.BEYOND);
        refused(x, 9, "SHIFTED by 201", x.shift(a, 201), -1, FlowCurves.BAD);
        refused(x, 9, "SHIFTED by -1", x.shift(a, -1), -1, FlowCurves.BAD);
        refused(x, 9, "no curve", x.shift(9, 1), -1, FlowCurves.BAD);
        int ray = x.ray(3);
        due(9, "a RAY SHIFTED by 200", x.about(x.shift(ray, 200), 3), 3);
        int zero = x.ray(0);
        due(9, "zeros SHIFTED", x.about(x.shift(zero, 200), 0), 0);
        int early = made(x, 2, 3, 2, 3);
        due(9, "SHIFTED that comes round before", x.about(x.shift(early, 2), 0), 1);
        due(9, "twice SHIFTED to 201", x.shift(x.shift(ray, 101), 100), -4);
    }

    private static void undo() {
        FlowCurves x = new FlowCurves();
        refused(x, 10, "undo() of none", x.undo(), -2, FlowCurves.STATE);
        x.ray(1);
        x.ray(2);
        x.serve(1);
        due(10, "undo()", x.undo(), 1);
        due(10, "SERVED by none", x.count(3), -1);
        refused(x, 10, "undo() twice", x.undo(), -2, FlowCurves.STATE);
        due(10, "it is gone", x.at(1, 1), -1);
        x.serve(0);
        x.ray(3);
        due(10, "undo() of another", x.undo(), 1);
        due(10, "SERVED still", x.count(3), 0);
        x.times(0, 2);
        x.ray(-1);
        due(10, "a refused call changes nothing", x.undo(), 1);
        x.put(5);
        x.curve(1, 1);
        due(10, "undo() of a curve leaves the row empty", x.undo() + x.count(1), 1);
        x.of(0, 0, 0);
        due(10, "undo() behind of", x.undo(), 1);
        x.shift(0, 1);
        due(10, "undo() behind shift", x.undo(), 1);
    }

    private static void at() {
        FlowCurves x = new FlowCurves();
        int a = made(x, 60, BILLION, ramp());
        due(11, "at 0", x.at(a, 0), 0);
        due(11, "at 59", x.at(a, 59), 59);
        due(11, "at 60", x.at(a, 60), BILLION);
        due(11, "at BILLION", x.at(a, BILLION), 16666666L * BILLION + 40);
        int top = made(x, 1, BILLION, TOP);
        due(11, "at BILLION, greatest", x.at(top, BILLION), TOP + (long) BILLION * BILLION);
        refused(x, 11, "at -1", x.at(a, -1), -1, FlowCurves.BAD);
        refused(x, 11, "at BILLION + 1", x.at(a, BILLION + 1), -1, FlowCurves.BAD);
        refused(x, 11, "no curve", x.at(2, 0), -1, FlowCurves.BAD);
        refused(x, 11, "curve -1", x.at(-1, 0), -1, FlowCurves.BAD);
        int late = lateCurve(x, 3, 4);
        int steps = stair(x, 4, 6);
        int bucket = burst(x, 7, 2);
        amounts(x, 11, "LATE", late, 0, 0, 0, 0, 4, 8);
        amounts(x, 11, "STAIR", steps, 0, 0, 0, 0, 6, 6, 6, 6, 12);
        amounts(x, 11, "BURST", bucket, 0, 7, 9, 11, 13);
        due(11, "LATE far", x.at(late, BILLION), 4L * (BILLION - 3));
        due(11, "STAIR far", x.at(steps, BILLION), 6L * (BILLION / 4));
        due(11, "BURST far", x.at(bucket, BILLION), 7 + 2L * (BILLION - 1));
    }

    private static long[] ramp() {
        long[] ramp = new long[60];
        for (int i = 0; i < 60; i++) {
            ramp[i] = i;
        }
        return ramp;
    }

    private static void about() {
        FlowCurves x = new FlowCurves();
        int a = made(x, 2, 3, 0, 1, 1, 4, 4);
        due(12, "START", x.about(a, 0), 1);
        due(12, "STEP", x.about(a, 1), 2);
        due(12, "GAIN", x.about(a, 2), 3);
        due(12, "KIND", x.about(a, 3), 0);
        due(12, "CLOSED", x.about(a, 4), 0);
        refused(x, 12, "what 5", x.about(a, 5), -1, FlowCurves.BAD);
        refused(x, 12, "what -1", x.about(a, -1), -1, FlowCurves.BAD);
        refused(x, 12, "no curve", x.about(1, 0), -1, FlowCurves.BAD);
    }

    private static void kinds() {
        FlowCurves x = new FlowCurves();
        due(12, "BURST", x.about(burst(x, 9, 2), 3), 1);
        due(12, "BURST of GAIN 0", x.about(burst(x, 1, 0), 3), 1);
        due(12, "b is c: a RAY", x.about(burst(x, 2, 2), 3), 2);
        due(12, "b below c: a CURVE", x.about(burst(x, 1, 2), 3), 0);
        due(12, "b is 0: LATE", x.about(burst(x, 0, 2), 3), 3);
        due(12, "f(0) above 0: a CURVE", x.about(made(x, 1, 2, 1, 9), 3), 0);
        due(12, "RAY 0", x.about(x.ray(0), 3), 2);
        due(12, "straight, but above 0", x.about(made(x, 1, 2, 1), 3), 0);
        due(12, "LATE", x.about(lateCurve(x, 200, 1), 3), 3);
        due(12, "zeros", x.about(lateCurve(x, 5, 0), 3), 2);
        due(12, "STAIR", x.about(stair(x, 2, 1), 3), 4);
        due(12, "STAIR of sixty", x.about(stair(x, 60, BILLION), 3), 4);
        due(12, "a STAIR that comes a span later", x.about(made(x, 3, 2, 0, 0, 0, 0), 3), 0);
        due(12, "a STAIR that comes a span sooner", x.about(made(x, 3, 2, 0, 0, 2), 3), 0);
        due(12, "a STAIR over nothing", x.about(made(x, 3, 2, 1, 1, 1), 3), 0);
        due(12, "later zeros, then a bend", x.about(made(x, 1, 2, 0, 0, 1, 3), 3), 0);
    }

    private static void closed() {
        FlowCurves x = new FlowCurves();
        due(12, "BURST is CLOSED", x.about(burst(x, 9, 2), 4), 1);
        due(12, "RAY is CLOSED", x.about(x.ray(7), 4), 1);
        due(12, "LATE is not CLOSED", x.about(lateCurve(x, 1, 1), 4), 0);
        due(12, "STAIR is not CLOSED", x.about(stair(x, 2, 1), 4), 0);
        due(12, "f(0) above 0 is not CLOSED", x.about(made(x, 1, 0, 1), 4), 0);
        due(12, "a STAIR that begins at once is CLOSED", x.about(made(x, 3, 2, 0, 2, 2), 4), 1);
        due(12, "a CURVE closed but at 5 and 5", x.about(made(x, 1, 5, 0, 9, 9, 9, 9, 9, 18, 18, 18, 18, 19), 4), 0);
        due(12, "a CURVE closed there too", x.about(made(x, 1, 1, 0, 9, 9, 9, 9, 9, 18, 18, 18, 18, 18), 4), 1);
        due(12, "a CURVE unclosed behind START + STEP", x.about(made(x, 2, 5, 0, 2, 5), 4), 0);
    }

    private static void rate() {
        FlowCurves x = new FlowCurves();
        int a = stair(x, 12, 18);
        due(13, "upper", x.rate(a, 0), 3);
        due(13, "lower", x.rate(a, 1), 2);
        int four = stair(x, 4, 6);
        due(13, "upper, halved", x.rate(four, 0), 3);
        due(13, "lower, halved", x.rate(four, 1), 2);
        int flat = made(x, 1, 0, 0, 5);
        due(13, "upper of RATE 0", x.rate(flat, 0), 0);
        due(13, "lower of RATE 0", x.rate(flat, 1), 1);
        int most = x.ray(BILLION);
        due(13, "upper, greatest", x.rate(most, 0), BILLION);
        due(13, "lower, greatest", x.rate(most, 1), 1);
        int seven = stair(x, 7, 60);
        due(13, "upper, no common part", x.rate(seven, 0), 60);
        due(13, "lower, no common part", x.rate(seven, 1), 7);
        refused(x, 13, "what 2", x.rate(a, 2), -1, FlowCurves.BAD);
        refused(x, 13, "what -1", x.rate(a, -1), -1, FlowCurves.BAD);
        refused(x, 13, "no curve", x.rate(5, 0), -1, FlowCurves.BAD);
    }

    private static void unlike() {
        FlowCurves x = new FlowCurves();
        int a = x.ray(2);
        int b = made(x, 1, 2, 0, 2, 4, 6);
        due(14, "the same", x.unlike(a, b), -1);
        due(14, "status() of the same", x.status(), 0);
        due(14, "at 0", x.unlike(a, made(x, 1, 2, 1)), 0);
        due(14, "where the gains part", x.unlike(a, made(x, 1, 3, 0, 2, 4, 6)), 4);
        due(14, "by its turns", x.unlike(stair(x, 6, 2), stair(x, 10, 2)), 6);
        refused(x, 14, "P 63", x.unlike(stair(x, 7, 1), stair(x, 9, 1)), -2, FlowCurves.BEYOND);
        refused(x, 14, "no f", x.unlike(8, 0), -2, FlowCurves.BAD);
        refused(x, 14, "no g", x.unlike(0, -1), -2, FlowCurves.BAD);
        int late = lateCurve(x, 200, 1);
        due(14, "as late as can be", x.unlike(late, x.ray(0)), 201);
    }

    private static void below() {
        FlowCurves x = new FlowCurves();
        int late = lateCurve(x, 3, 3);
        int bucket = burst(x, 9, 3);
        due(15, "below", x.below(late, bucket), 1);
        due(15, "not below", x.below(bucket, late), 0);
        due(15, "below itself", x.below(late, late), 1);
        int slow = x.ray(1);
        due(15, "above by RATE, far off", x.below(slow, made(x, 1, 0, TOP)), 0);
        due(15, "below by RATE, but above at first", x.below(made(x, 1, 0, 1), slow), 0);
        int six = made(x, 6, 6, 0, 0, 0, 0, 0, 5);
        due(15, "above once a turn", x.below(six, stair(x, 1, 1)), 1);
        refused(x, 15, "P 63", x.below(stair(x, 7, 1), stair(x, 9, 1)), -4, FlowCurves.BEYOND);
        refused(x, 15, "no f", x.below(99, 0), -1, FlowCurves.BAD);
        refused(x, 15, "no g", x.below(0, -1), -1, FlowCurves.BAD);
        int four = made(x, 4, 4, 0, 0, 0, 4);
        due(15, "above at the end of a turn", x.below(four, slow), 0);
    }

    private static void first() {
        FlowCurves x = new FlowCurves();
        int a = made(x, 3, 7, 1, 1, 5);
        due(16, "first of 0", x.first(a, 0), 0);
        due(16, "first of 1", x.first(a, 1), 0);
        due(16, "first of 2", x.first(a, 2), 2);
        due(16, "first of 6", x.first(a, 6), 3);
        due(16, "first of 9", x.first(a, 9), 5);
        int one = x.ray(1);
        due(16, "first of BILLION", x.first(one, BILLION), BILLION);
        refused(x, 16, "first of BILLION + 1", x.first(one, BILLION + 1L), -5, FlowCurves.ENDLESS);
        int flat = made(x, 1, 0, 5);
        due(16, "first of 5", x.first(flat, 5), 0);
        refused(x, 16, "first of 6, never", x.first(flat, 6), -5, FlowCurves.ENDLESS);
        refused(x, 16, "first of -1", x.first(a, -1), -1, FlowCurves.BAD);
        refused(x, 16, "first of the least long", x.first(a, Long.MIN_VALUE), -1, FlowCurves.BAD);
        refused(x, 16, "first of the greatest long", x.first(a, Long.MAX_VALUE), -5, FlowCurves.ENDLESS);
        refused(x, 16, "no curve", x.first(3, 0), -1, FlowCurves.BAD);
    }

    private static void heap() {
        FlowCurves x = new FlowCurves();
        int bucket = burst(x, 9, 2);
        int late = lateCurve(x, 3, 4);
        due(17, "HEAP", x.heap(bucket, late), 13);
        refused(x, 17, "HEAP of the faster", x.heap(late, bucket), -1, FlowCurves.ENDLESS);
        due(17, "HEAP of 0", x.heap(x.ray(1), x.ray(2)), 0);
        due(17, "HEAP of the same RATE", x.heap(bucket, x.ray(2)), 7);
        refused(x, 17, "P 63 ahead of ENDLESS", x.heap(stair(x, 7, 9), stair(x, 9, 1)), -1, FlowCurves.BEYOND);
        refused(x, 17, "no f", x.heap(60, 0), -1, FlowCurves.BAD);
        refused(x, 17, "no g", x.heap(0, 60), -1, FlowCurves.BAD);
        int four = made(x, 4, 8, 0, 0, 0, 8);
        int six = made(x, 6, 12, 0, 0, 0, 0, 0, 0);
        due(17, "HEAP over a turn of 12", x.heap(four, six), 12);
        int top = made(x, 1, 0, TOP);
        due(17, "HEAP of TOP", x.heap(top, x.ray(0)), TOP);
    }

    private static void waits() {
        FlowCurves x = new FlowCurves();
        int bucket = burst(x, 9, 2);
        int late = lateCurve(x, 3, 4);
        due(18, "WAIT", x.wait(bucket, late), 5);
        due(18, "WAIT of 0", x.wait(late, late), 0);
        refused(x, 18, "WAIT of the faster", x.wait(late, bucket), -5, FlowCurves.ENDLESS);
        int zero = x.ray(0);
        refused(x, 18, "WAIT for none", x.wait(made(x, 1, 0, 1), zero), -5, FlowCurves.ENDLESS);
        due(18, "WAIT of none", x.wait(zero, zero), 0);
        int one = x.ray(1);
        due(18, "WAIT of BILLION", x.wait(made(x, 1, 0, BILLION), one), BILLION);
        refused(x, 18, "WAIT of BILLION + 1", x.wait(made(x, 1, 0, BILLION + 1L), one), -5, FlowCurves.ENDLESS);
        due(18, "WAIT of BILLION at 1", x.wait(made(x, 1, 0, 0, BILLION + 1L), one), BILLION);
        refused(x, 18, "P 63", x.wait(stair(x, 7, 9), stair(x, 9, 1)), -4, FlowCurves.BEYOND);
        refused(x, 18, "no f", x.wait(-1, 0), -1, FlowCurves.BAD);
        refused(x, 18, "no g", x.wait(0, 99), -1, FlowCurves.BAD);
        int four = made(x, 4, 8, 0, 0, 0, 8);
        int six = stair(x, 6, 12);
        due(18, "WAIT over a turn of 12", x.wait(four, six), 5);
    }

    private static void come() {
        FlowCurves x = new FlowCurves();
        due(19, "come(0)", x.come(0), 1);
        due(19, "come(BILLION)", x.come(BILLION), 2);
        refused(x, 19, "come(-1)", x.come(-1), -1, FlowCurves.BAD);
        refused(x, 19, "come(BILLION + 1)", x.come(BILLION + 1), -1, FlowCurves.BAD);
        for (int i = 2; i < 60; i++) {
            due(19, "come", x.come(BILLION), i + 1);
        }
        refused(x, 19, "come, full", x.come(0), -3, FlowCurves.FULL);
        refused(x, 19, "come, BAD ahead of FULL", x.come(-1), -1, FlowCurves.BAD);
        due(19, "all that came", x.moved(0, 60), 59L * BILLION);
    }

    private static void hardest() {
        FlowCurves x = new FlowCurves();
        int a = made(x, 2, 3, 5, 6, 8);
        x.come(100);
        x.come(100);
        due(20, "hardest", x.hardest(a, 4), 4);
        due(20, "count(2)", x.count(2), 4);
        due(20, "STEP 1 is f(1)", x.moved(0, 1), 6);
        due(20, "STEPS 1, 2", x.moved(0, 2), 8);
        due(20, "STEPS 1 to 4", x.moved(0, 4), 11);
        due(20, "behind them", x.moved(0, 5), 11);
        refused(x, 20, "61 STEPS", x.hardest(a, 61), -1, FlowCurves.BAD);
        refused(x, 20, "-1 STEPS", x.hardest(a, -1), -1, FlowCurves.BAD);
        refused(x, 20, "no curve", x.hardest(1, 4), -1, FlowCurves.BAD);
        int steep = burst(x, BILLION + 1L, 0);
        refused(x, 20, "STEP 1 above BILLION", x.hardest(steep, 1), -1, FlowCurves.BAD);
        due(20, "0 STEPS of it", x.hardest(steep, 0), 0);
        due(20, "count(2)", x.count(2), 0);
        x.hardest(a, 3);
        int bent = made(x, 1, 0, 0, 0, 0, BILLION + 1L);
        refused(x, 20, "STEP 3 above BILLION", x.hardest(bent, 3), -1, FlowCurves.BAD);
        due(20, "what there was stays", x.moved(0, 60), 9);
        due(20, "2 STEPS of it", x.hardest(bent, 2), 2);
        due(20, "60 STEPS of BILLION", x.hardest(x.ray(BILLION), 60), 60);
        due(20, "they came", x.moved(0, 60), 60L * BILLION);
    }

    private static void stop() {
        FlowCurves x = new FlowCurves();
        due(21, "stop() of none", x.stop(), 0);
        x.ray(1);
        x.serve(0);
        x.come(5);
        x.come(6);
        due(21, "stop()", x.stop(), 2);
        due(21, "count(2)", x.count(2), 0);
        due(21, "SERVED still", x.count(3), 0);
        due(21, "nothing came", x.moved(0, 1), 0);
        x.come(3);
        due(21, "comes again", x.moved(0, 600), 3);
    }

    private static void serve() {
        FlowCurves x = new FlowCurves();
        refused(x, 22, "serve(0) of none", x.serve(0), -1, FlowCurves.BAD);
        x.ray(1);
        x.ray(2);
        due(22, "serve(1)", x.serve(1), 1);
        due(22, "count(3)", x.count(3), 1);
        refused(x, 22, "serve(2)", x.serve(2), -1, FlowCurves.BAD);
        refused(x, 22, "serve(-1)", x.serve(-1), -1, FlowCurves.BAD);
        due(22, "SERVED still", x.count(3), 1);
        due(22, "serve(0)", x.serve(0) + 10 * x.count(3), 1);
    }

    private static void moved() {
        FlowCurves x = new FlowCurves();
        int late = lateCurve(x, 2, 3);
        x.come(4);
        x.come(0);
        x.come(5);
        refused(x, 23, "B by none", x.moved(1, 0), -1, FlowCurves.STATE);
        refused(x, 23, "HELD by none", x.moved(2, 0), -1, FlowCurves.STATE);
        refused(x, 23, "BAD ahead of STATE", x.moved(2, 601), -1, FlowCurves.BAD);
        x.serve(late);
        long[] came = {0, 4, 4, 9, 9, 9, 9};
        long[] passed = {0, 0, 0, 3, 4, 7, 9};
        for (int t = 0; t < came.length; t++) {
            due(23, "A at " + t, x.moved(0, t), came[t]);
            due(23, "B at " + t, x.moved(1, t), passed[t]);
            due(23, "HELD at " + t, x.moved(2, t), came[t] - passed[t]);
        }
        due(23, "B at 600", x.moved(1, 600), 9);
        refused(x, 23, "side 3", x.moved(3, 0), -1, FlowCurves.BAD);
        refused(x, 23, "side -1", x.moved(-1, 0), -1, FlowCurves.BAD);
        refused(x, 23, "t -1", x.moved(0, -1), -1, FlowCurves.BAD);
        refused(x, 23, "t 601", x.moved(1, 601), -1, FlowCurves.BAD);
        x.serve(made(x, 1, 0, 2));
        due(23, "B by a flat curve", x.moved(1, 600), 2);
        due(23, "B by a flat curve at 0", x.moved(1, 0), 0);
    }

    private static void late() {
        FlowCurves x = new FlowCurves();
        int slow = lateCurve(x, 2, 3);
        x.come(4);
        refused(x, 24, "by none", x.late(0), -2, FlowCurves.STATE);
        refused(x, 24, "BAD ahead of STATE", x.late(2), -1, FlowCurves.BAD);
        x.serve(slow);
        due(24, "late(0)", x.late(0), 0);
        due(24, "late(1)", x.late(1), 3);
        refused(x, 24, "late(-1)", x.late(-1), -1, FlowCurves.BAD);
        refused(x, 24, "late(2)", x.late(2), -1, FlowCurves.BAD);
        x.stop();
        x.come(501);
        x.serve(x.ray(1));
        due(24, "LATE 500", x.late(1), 500);
        x.stop();
        x.come(502);
        refused(x, 24, "LATE 501", x.late(1), -5, FlowCurves.ENDLESS);
        x.come(0);
        due(24, "LATE at the second STEP", x.late(2), 500);
        x.stop();
        due(24, "LATE of nothing", x.late(0), 0);
    }

    private static void mostHeldAndLate() {
        FlowCurves x = new FlowCurves();
        int slow = lateCurve(x, 2, 3);
        refused(x, 25, "mostHeld() by none", x.mostHeld(), -1, FlowCurves.STATE);
        refused(x, 26, "mostLate() by none", x.mostLate(), -2, FlowCurves.STATE);
        x.serve(slow);
        due(25, "mostHeld() of nothing", x.mostHeld(), 0);
        due(26, "mostLate() of nothing", x.mostLate(), 0);
        x.come(4);
        x.come(0);
        x.come(5);
        x.come(0);
        due(25, "mostHeld()", x.mostHeld(), 6);
        due(26, "mostLate()", x.mostLate(), 3);
        x.come(100);
        due(25, "mostHeld() at the last STEP", x.mostHeld(), 102);
        due(26, "mostLate() at the last STEP", x.mostLate(), 35);
        x.serve(x.ray(0));
        refused(x, 26, "mostLate() without end", x.mostLate(), -5, FlowCurves.ENDLESS);
        due(25, "mostHeld() is all", x.mostHeld(), 109);
        x.stop();
        due(26, "mostLate() of nothing by nothing", x.mostLate(), 0);
    }

    private static void keeps() {
        FlowCurves x = new FlowCurves();
        int bucket = burst(x, 9, 2);
        due(27, "nothing keeps", x.keeps(bucket), 1);
        x.come(9);
        x.come(2);
        due(27, "it keeps", x.keeps(bucket), 1);
        x.come(3);
        due(27, "it doesn't any more", x.keeps(bucket), 0);
        x.stop();
        x.come(0);
        x.come(0);
        x.come(0);
        x.come(10);
        due(27, "too much in a later STEP", x.keeps(bucket), 0);
        due(27, "it keeps a flat one", x.keeps(made(x, 1, 0, 10)), 1);
        due(27, "it keeps no LATE", x.keeps(lateCurve(x, 1, 20)), 0);
        refused(x, 27, "no curve", x.keeps(3), -1, FlowCurves.BAD);
        refused(x, 27, "curve -1", x.keeps(-1), -1, FlowCurves.BAD);
    }

    private static void count() {
        FlowCurves x = new FlowCurves();
        x.put(1);
        x.put(2);
        x.ray(3);
        x.ray(4);
        x.ray(5);
        x.come(1);
        x.serve(2);
        due(28, "CURVES", x.count(0), 3);
        due(28, "THE ROW", x.count(1), 2);
        due(28, "STEPS", x.count(2), 1);
        due(28, "SERVED by", x.count(3), 2);
        due(28, "undo() may be", x.count(4), 1);
        x.undo();
        due(28, "undo() may not be", x.count(4), 0);
        due(28, "BAD 5", x.count(5), -1);
        due(28, "BAD -1", x.count(-1), -1);
        due(28, "it leaves status()", x.status(), 0);
    }

    private static void trace() {
        FlowCurves x = new FlowCurves();
        int curve = made(x, 1, 2, 3);
        int bucket = burst(x, 9, 2);
        int ray = x.ray(4);
        int late = lateCurve(x, 2, 2);
        int steps = stair(x, 2, 2);
        x.heap(bucket, ray);
        x.of(4, bucket, late);
        x.first(ray, 10);
        x.about(bucket, 4);
        traced(x, 0, 0, 0, 0, 0);
        x.at(curve, 0);
        x.at(bucket, 0);
        x.at(bucket, 7);
        x.at(ray, 1);
        for (int i = 0; i < 4; i++) {
            x.at(late, i);
        }
        for (int i = 0; i < 5; i++) {
            x.at(steps, i);
        }
        x.at(steps, -1);
        x.at(99, 0);
        traced(x, 1, 2, 3, 4, 5);
        due(29, "BAD 5", x.trace(5), -1);
        due(29, "BAD -1", x.trace(-1), -1);
        due(29, "it leaves status()", x.status(), -1);
        x.clear();
        traced(x, 1, 2, 3, 4, 5);
    }

    private static void traced(FlowCurves x, int... wanted) {
        for (int b = 0; b < wanted.length; b++) {
            due(29, "trace(" + b + ")", x.trace(b), wanted[b]);
        }
    }

    private static void status() {
        FlowCurves x = new FlowCurves();
        due(30, "status() of a new object", x.status(), 0);
        x.ray(-1);
        due(30, "BAD", x.status(), -1);
        x.count(0);
        x.trace(0);
        x.status();
        due(30, "BAD still", x.status(), -1);
        x.undo();
        due(30, "STATE", x.status(), -2);
        x.drop();
        due(30, "none", x.status(), 0);
        x.count(9);
        x.trace(9);
        due(30, "none still", x.status(), 0);
        x.ray(2);
        x.ray(1);
        x.heap(0, 1);
        due(30, "ENDLESS", x.status(), -5);
        x.heap(1, 0);
        due(30, "none of heap", x.status(), 0);
        x.moved(1, 0);
        due(30, "STATE of moved", x.status(), -2);
        x.moved(0, 0);
        due(30, "none of moved", x.status(), 0);
        x.at(0, -1);
        x.clear();
        due(30, "none of clear", x.status(), 0);
    }

    private static void clear() {
        FlowCurves x = new FlowCurves();
        x.ray(3);
        x.put(1);
        x.come(2);
        x.serve(0);
        due(31, "clear()", x.clear(), 1);
        for (int what = 0; what < 5; what++) {
            due(31, "count(" + what + ")", x.count(what), what == 3 ? -1 : 0);
        }
        due(31, "no CURVE", x.at(0, 0), -1);
        due(31, "nothing came", x.moved(0, 600), 0);
        due(31, "no undo()", x.undo(), -2);
        due(31, "the first CURVE again", x.ray(1), 0);
    }
}
