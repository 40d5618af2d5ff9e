import java.util.function.Consumer;

/** The edges that the document names in its words in capitals: sections 1 to 4 of its Terms. */
public final class EdgesOfTermsTest {
    private static final int BILLION = Sentence.BILLION;
    private static final long TOP = Sentence.TOP;
    private static final int BAD = Sentence.BAD, STATE = Sentence.STATE, FULL = Sentence.FULL;
    private static final int BEYOND = Sentence.BEYOND, ENDLESS = Sentence.ENDLESS;
    private static final int SUM = Sentence.SUM, LEAST = Sentence.LEAST, MOST = Sentence.MOST;
    private static final int REST = Sentence.REST, BOTH = Sentence.BOTH, OFF = Sentence.OFF;
    private static final int KIND = Sentence.KIND, CLOSED = Sentence.CLOSED;

    public static void main(String[] args) {
        amounts();
        leastTerms();
        sixtyCurves();
        startBounds();
        startBoundsOfTwo();
        stepAndGainBounds();
        amountBounds();
        amountBoundsOfTwo();
        commonStep();
        burstKind();
        rayKind();
        lateKind();
        stairKind();
        sideBySide();
        rest();
        both();
        off();
        closed();
        below();
        heap();
        waits();
        Sentence.end("EdgesOfTermsTest");
    }

    private static void holds(String words, Consumer<Sentence> test) {
        Sentence.holds(words, test);
    }

    // ---- 1 A CURVE

    private static void amounts() {
        holds("SPAN t = 0, 1, 2, ..: 0 is the first", s -> {
            int f = s.made(1, 2, 7);
            s.is("at(f, 0)", s.x.at(f, 0), 7);
            s.no("at(f, -1)", s.x.at(f, -1), -1, BAD);
        });
        holds("an AMOUNT is 0 or above: REST and OFF of lesser ones", s -> {
            int f = s.flat(3);
            int g = s.flat(5);
            s.amounts(s.of(REST, f, g), 0, 0, 0);
            s.amounts(s.of(OFF, f, g), 0, 0, 0);
        });
        holds("never falls: the same AMOUNT again is no fall", s -> s.amounts(s.made(1, 0, 4, 4, 4), 4, 4, 4, 4));
        holds("never falls: a row that falls by 1 is none", s -> {
            s.row(4, 3);
            s.refused("curve(1, 5)", s.x.curve(1, 5), STATE);
        });
        holds("they come round for ever", s -> {
            int f = s.made(2, 3, 0, 1);
            s.is("at(f, 1000000000)", s.x.at(f, BILLION), 1500000000L);
            s.is("at(f, 999999999)", s.x.at(f, BILLION - 1), 1499999998L);
        });
        holds("for all t from T on, not before: f(T - 1 + d) is not f(T - 1) + c", s -> {
            int f = s.made(2, 6, 1, 1, 2);
            s.terms(f, 1, 2, 6);
            s.amounts(f, 1, 1, 2, 7, 8, 13);
        });
    }

    private static void leastTerms() {
        holds("the least d is told: 60 told as 1", s -> {
            s.again(60);
            s.terms(s.x.curve(60, 0), 0, 1, 0);
        });
        holds("the least d is told: 60 told as 30", s -> {
            for (int half = 0; half < 60; half += 30) {
                s.x.put(half / 30 * 9);
                s.again(29);
            }
            int f = s.x.curve(60, 18);
            s.terms(f, 0, 30, 9);
        });
        holds("the least d is told: 60 stays 60, if one AMOUNT is another", s -> {
            for (int half = 0; half < 60; half += 30) {
                s.x.put(half / 30 * 9);
                s.again(28);
                s.x.put(half / 30 * 10);
            }
            int f = s.x.curve(60, 18);
            s.terms(f, 0, 60, 18);
        });
        holds("the least d is told, 1 or above: of 0 for ever it is 1", s -> s.terms(s.ray(0), 0, 1, 0));
        holds("d is least from T on, whatever is before", s -> s.terms(s.made(4, 4, 0, 9, 9, 10, 11, 12), 2, 1, 1));
        holds("the least T is told: 0, though the row is longer", s -> s.terms(s.made(1, 1, 0, 1, 2, 3, 4), 0, 1, 1));
        holds("the least T is told: 1 ahead of the row's last STEP", s -> s.terms(s.made(1, 1, 0, 0, 1, 2), 1, 1, 1));
        holds("the least T is told of the least d", s -> s.terms(s.made(4, 6, 5, 5, 6, 8, 9), 1, 2, 3));
        holds("the RATE is c / d in the least d", s -> {
            int f = s.made(4, 6, 0, 1, 3, 4);
            s.is("rate(f, 0)", s.x.rate(f, 0), 3);
            s.is("rate(f, 1)", s.x.rate(f, 1), 2);
        });
    }

    private static void sixtyCurves() {
        holds("CURVES are numbered from 0 as they are made", s -> {
            s.is("ray", s.x.ray(5), 0);
            s.is("ray", s.x.ray(5), 1);
            s.is("times", s.x.times(0, 2), 2);
            s.is("shift", s.x.shift(0, 2), 3);
            s.is("of", s.x.of(SUM, 0, 0), 4);
            s.x.put(0);
            s.is("curve", s.x.curve(1, 0), 5);
        });
        holds("60 at most: the 60th comes", s -> {
            s.curvesUpTo(59);
            s.is("ray, the 60th", s.x.ray(8), 59);
            s.is("at(59, 2)", s.x.at(59, 2), 16);
        });
        holds("60 at most: the 61st does not", s -> {
            s.curvesUpTo(60);
            s.refused("ray, the 61st", s.x.ray(8), FULL);
            s.tells("count(0)", s.x.count(0), 60);
        });
        holds("no such CURVE: the number of the next one", s -> {
            s.curvesUpTo(3);
            s.no("at(3, 0)", s.x.at(3, 0), -1, BAD);
            s.is("at(2, 0)", s.x.at(2, 0), 0);
        });
        holds("no such CURVE: 60 of a full bench", s -> {
            s.curvesUpTo(60);
            s.no("at(60, 0)", s.x.at(60, 0), -1, BAD);
        });
        holds("they never change, whatever is made of them", s -> {
            int f = s.made(2, 3, 1, 1, 4);
            int g = s.burst(9, 2);
            for (int way = SUM; way <= BOTH; way++) {
                s.of(way, f, g);
            }
            s.x.times(f, 7);
            s.x.shift(f, 3);
            s.x.undo();
            s.amounts(f, 1, 1, 4, 4, 7);
            s.terms(f, 0, 2, 3);
            s.amounts(g, 0, 9, 11);
        });
    }

    private static void startBounds() {
        holds("T 200 at most: 200 of curve", s -> s.terms(s.jump(200, 1), 200, 1, 0));
        holds("T 200 at most: 201 of curve is BEYOND", s -> {
            s.again(201);
            s.x.put(1);
            s.refused("curve(1, 0)", s.x.curve(1, 0), BEYOND);
        });
        holds("T 200 at most: a row of 300 with T 240 is BEYOND", s -> {
            s.again(240);
            s.x.put(1);
            s.again(59);
            s.refused("curve(60, 5)", s.x.curve(60, 5), BEYOND);
        });
        holds("T is the least one: a row of 300 with T 0", s -> {
            s.again(300);
            s.is("curve(1, 0)", s.x.curve(1, 0), 0);
            s.terms(0, 0, 1, 0);
        });
        holds("T 200 at most: 200 of shift", s -> {
            int f = s.burst(4, 1);
            int g = s.x.shift(f, 199);
            s.terms(g, 200, 1, 1);
        });
        holds("T 200 at most: 201 of shift is BEYOND", s -> {
            int f = s.burst(4, 1);
            s.refused("shift(f, 200)", s.x.shift(f, 200), BEYOND);
        });
        holds("T is the least one: shift of 201 that comes round at 200", s -> {
            int f = s.made(2, 4, 0, 1, 4);
            s.terms(s.x.shift(f, 199), 199, 2, 4);
            int g = s.made(2, 4, 4, 4, 7, 8);
            s.terms(g, 1, 2, 4);
            s.terms(s.x.shift(g, 199), 200, 2, 4);
        });
        holds("T 200 stays 200 of times", s -> {
            int f = s.jump(200, 3);
            s.terms(s.x.times(f, 9), 200, 1, 0);
            s.terms(s.x.times(f, 0), 0, 1, 0);
        });
    }

    private static void startBoundsOfTwo() {
        holds("T 200 at most: SUM of two with 200", s -> {
            int f = s.jump(200, 3);
            s.terms(s.of(SUM, f, f), 200, 1, 0);
        });
        holds("T 200 at most: LEAST that crosses at 200, at 201", s -> {
            int f = s.ray(1);
            int g = s.flat(200);
            int h = s.flat(201);
            s.terms(s.of(LEAST, f, g), 200, 1, 0);
            s.refused("LEAST, crosses at 201", s.x.of(LEAST, f, h), BEYOND);
        });
        holds("T 200 at most: MOST that crosses at 200, at 201", s -> {
            int f = s.ray(1);
            int g = s.flat(200);
            int h = s.flat(201);
            s.terms(s.of(MOST, g, f), 200, 1, 1);
            s.refused("MOST, crosses at 201", s.x.of(MOST, h, f), BEYOND);
        });
        holds("T 200 at most: REST above 0 from 200, from 201", s -> {
            int f = s.ray(1);
            int g = s.flat(200);
            int h = s.flat(201);
            s.terms(s.of(REST, f, g), 200, 1, 1);
            s.refused("REST, above 0 from 201", s.x.of(REST, f, h), BEYOND);
        });
        holds("T 200 at most: BOTH of LATE 100 and 100, 100 and 101", s -> {
            int f = s.late(100, 2);
            int g = s.late(101, 2);
            s.terms(s.of(BOTH, f, f), 200, 1, 2);
            s.refused("BOTH of LATE 100 and 101", s.x.of(BOTH, f, g), BEYOND);
            s.refused("BOTH of LATE 101 and 100", s.x.of(BOTH, g, f), BEYOND);
        });
        holds("T 200 at most: BOTH that crosses at 200, at 201", s -> {
            int f = s.ray(1);
            int g = s.burst(200, 0);
            int h = s.burst(201, 0);
            s.terms(s.of(BOTH, f, g), 200, 1, 0);
            s.refused("BOTH, crosses at 201", s.x.of(BOTH, f, h), BEYOND);
        });
        holds("T 200 at most: BOTH that is the same up to 260 and bends behind", s -> {
            int f = s.jump(130, 5);
            s.refused("BOTH, bends at 260", s.x.of(BOTH, f, f), BEYOND);
        });
        holds("T 200 at most: BOTH of STEP 30 that comes round for two turns and bends behind", s -> {
            s.x.put(1);
            s.again(7);
            s.x.put(3);
            s.again(43);
            s.x.put(4);
            s.again(26);
            s.x.put(6);
            s.again(89);
            int f = s.x.curve(30, 1);
            s.terms(f, 139, 30, 1);
            s.refused("BOTH, T is 307", s.x.of(BOTH, f, f), BEYOND);
        });
        holds("T 200 at most: BOTH of two with 200 that bend at 400", s -> {
            int f = s.jump(200, 5);
            s.refused("BOTH, bends at 400", s.x.of(BOTH, f, f), BEYOND);
        });
        holds("T 200 at most: OFF above 0 from 200, from 201", s -> {
            int f = s.ray(1);
            int g = s.made(1, 1, 200);
            int h = s.made(1, 1, 201);
            s.terms(s.of(OFF, f, g), 200, 1, 1);
            s.refused("OFF, above 0 from 201", s.x.of(OFF, f, h), BEYOND);
        });
        holds("T of OFF is that of f at most", s -> {
            int f = s.made(1, 1, 0, 5, 9);
            int g = s.late(200, 1);
            s.terms(s.of(OFF, f, g), 0, 1, 1);
        });
        holds("a STEP of 60 that leads only once a turn counts for T", s -> {
            int f = s.stair(60, 61);
            int g = s.ray(1);
            s.refused("LEAST of STAIR 61 / 60 and RAY 1", s.x.of(LEAST, f, g), BEYOND);
            int h = s.of(LEAST, s.stair(60, 60), g);
            s.terms(h, 0, 60, 60);
        });
    }

    private static void stepAndGainBounds() {
        holds("d 60 at most: 60", s -> s.terms(s.stair(60, 7), 0, 60, 7));
        holds("d 60 of two: 20 and 30", s -> s.terms(s.of(SUM, s.stair(20, 1), s.stair(30, 1)), 0, 60, 5));
        holds("c 1000000000 at most: of ray", s -> s.terms(s.ray(BILLION), 0, 1, BILLION));
        holds("c 1000000000 at most: of curve, a STEP of 60", s -> s.terms(s.stair(60, BILLION), 0, 60, BILLION));
        holds("c 1000000000 at most: SUM", s -> {
            int f = s.ray(BILLION / 2);
            int g = s.ray(BILLION / 2 + 1);
            s.terms(s.of(SUM, f, f), 0, 1, BILLION);
            s.refused("SUM with c 1000000001", s.x.of(SUM, f, g), BEYOND);
        });
        holds("c is that of the least d, not that of P", s -> {
            int f = s.ray(BILLION);
            int g = s.stair(60, 1);
            s.terms(s.of(MOST, f, g), 0, 1, BILLION);
        });
        holds("c 1000000000 at most: SUM of STEPS 2 and 3", s -> {
            int f = s.stair(2, 200000000);
            int g = s.stair(3, 200000000);
            int h = s.stair(3, 200000001);
            s.terms(s.of(SUM, f, g), 0, 6, BILLION);
            s.refused("SUM with c 1000000002", s.x.of(SUM, f, h), BEYOND);
        });
        holds("c 1000000000 at most: LEAST, MOST of the same RATE, c 1000000002", s -> {
            int f = s.stair(2, 333333334);
            int g = s.stair(3, 500000001);
            s.refused("LEAST with c above", s.x.of(LEAST, f, g), BEYOND);
            s.refused("MOST with c above", s.x.of(MOST, f, g), BEYOND);
        });
        holds("c is that of the least d: BOTH of STEPS 2 and 3 of the same RATE", s -> {
            int f = s.stair(2, 333333334);
            int g = s.stair(3, 500000001);
            s.terms(s.of(BOTH, f, g), 5, 1, 166666667);
        });
        holds("c 1000000000 at most: LEAST, MOST of the same RATE, c 999999996", s -> {
            int f = s.stair(2, 333333332);
            int g = s.stair(3, 499999998);
            s.terms(s.of(LEAST, f, g), 0, 6, 999999996);
            s.terms(s.of(MOST, f, g), 0, 6, 999999996);
        });
        holds("c 1000000000 at most: REST", s -> {
            int f = s.made(2, BILLION, 0, 0);
            int g = s.stair(3, 1);
            s.refused("REST with c 2999999998", s.x.of(REST, f, g), BEYOND);
        });
        holds("c 1000000000 at most: times", s -> {
            int f = s.ray(1000000);
            int g = s.ray(1000001);
            s.terms(s.x.times(f, 1000), 0, 1, BILLION);
            s.refused("times with c 1000001000", s.x.times(g, 1000), BEYOND);
        });
        holds("c 1000000000 at most: times by 2", s -> {
            int f = s.ray(500000000);
            int g = s.ray(500000001);
            s.terms(s.x.times(f, 2), 0, 1, BILLION);
            s.refused("times with c 1000000002", s.x.times(g, 2), BEYOND);
        });
    }

    private static void amountBounds() {
        holds("AMOUNTS of 1000000000000 at most: of curve", s -> s.amounts(s.flat(TOP), TOP, TOP));
        holds("AMOUNTS of 1000000000001 of curve are BEYOND", s -> {
            s.row(TOP);
            int z = drawsOne(s);
            s.is("draw", s.x.draw(1, z, 1), 2);
            s.refused("curve(1, 0)", s.x.curve(1, 0), BEYOND);
            s.tells("count(1)", s.x.count(1), 2);
        });
        holds("for t below T + d: the one at T + d may be above", s -> {
            int f = s.made(1, BILLION, TOP);
            s.amounts(f, TOP, TOP + BILLION, TOP + 2L * BILLION);
        });
        holds("for t below T + d in least terms: a row that goes above behind it", s -> {
            s.row(TOP);
            int z = drawsOne(s);
            s.x.draw(1, z, 1);
            int f = s.x.curve(1, 1);
            s.is("curve(1, 1)", f, 0);
            s.terms(f, 0, 1, 1);
            s.amounts(f, TOP, TOP + 1, TOP + 2);
        });
        holds("for t below T + d: the one at T + d - 1 counts", s -> {
            s.row(TOP);
            int z = drawsOne(s);
            s.x.draw(1, z, 1);
            s.refused("curve(2, 3)", s.x.curve(2, 3), BEYOND);
        });
        holds("AMOUNTS of 1000000000000 at most: times", s -> {
            int f = s.flat(TOP / 1000);
            int g = s.flat(TOP / 1000 + 1);
            s.amounts(s.x.times(f, 1000), TOP, TOP);
            s.refused("times, 1000000001000", s.x.times(g, 1000), BEYOND);
        });
        holds("AMOUNTS of 1000000000000 at most: shift leaves them", s -> {
            int f = s.flat(TOP);
            int g = s.x.shift(f, 200);
            s.terms(g, 200, 1, 0);
            s.is("at(g, 199)", s.x.at(g, 199), 0);
            s.is("at(g, 200)", s.x.at(g, 200), TOP);
        });
    }

    /** A z whose draw modulo 2 is 1. */
    private static int drawsOne(Sentence s) {
        int z = 0;
        while (((z * 1103515245L + 12345L) % 2147483648L >> 8) % 2 != 1) {
            z++;
        }
        return z;
    }

    private static void amountBoundsOfTwo() {
        holds("AMOUNTS of 1000000000000 at most: SUM", s -> {
            int f = s.flat(TOP - 5);
            int g = s.flat(5);
            int h = s.flat(6);
            s.amounts(s.of(SUM, f, g), TOP, TOP);
            s.refused("SUM, one above", s.x.of(SUM, f, h), BEYOND);
        });
        holds("AMOUNTS of 1000000000000 at most: BOTH", s -> {
            int f = s.flat(TOP - 5);
            int g = s.flat(5);
            int h = s.flat(6);
            s.amounts(s.of(BOTH, f, g), TOP, TOP);
            s.refused("BOTH, one above", s.x.of(BOTH, f, h), BEYOND);
        });
        holds("AMOUNTS below T + d: MOST, LEAST with T at 100", s -> {
            int f = s.made(1, BILLION - 1, TOP);
            int g = s.made(1, BILLION, TOP - 100);
            s.refused("MOST with AMOUNTS above", s.x.of(MOST, f, g), BEYOND);
            s.refused("LEAST with AMOUNTS above", s.x.of(LEAST, f, g), BEYOND);
        });
        holds("AMOUNTS below T + d: REST with T at 100", s -> {
            int f = s.made(1, BILLION, TOP - 100L * BILLION);
            int above = s.made(1, BILLION, TOP - 100L * BILLION + 1);
            int g = s.late(100, 1);
            int h = s.of(REST, f, g);
            s.terms(h, 100, 1, BILLION - 1);
            s.is("at(h, 100)", s.x.at(h, 100), TOP);
            s.refused("REST with AMOUNTS above", s.x.of(REST, above, g), BEYOND);
        });
        holds("AMOUNTS below T + d: OFF", s -> {
            int f = s.made(1, BILLION, TOP - 100L * BILLION);
            int above = s.made(1, BILLION, TOP - 100L * BILLION + 1);
            int g = s.late(100, BILLION);
            s.is("at(OFF, 0)", s.x.at(s.of(OFF, f, g), 0), TOP);
            s.refused("OFF with AMOUNTS above", s.x.of(OFF, above, g), BEYOND);
        });
    }

    private static void commonStep() {
        holds("P must be 60 at most: 12 and 10", s -> {
            int f = s.stair(12, 1);
            int g = s.stair(10, 1);
            for (int way = SUM; way <= BOTH; way++) {
                s.of(way, f, g);
            }
            s.of(OFF, f, g);
            s.is("unlike", s.x.unlike(f, g), 10);
            s.is("below", s.x.below(f, g), 1);
            s.is("heap", s.x.heap(f, g), 0);
            s.is("wait", s.x.wait(f, g), 0);
        });
        holds("P must be 60 at most: 60 and 60, 60 and 1", s -> {
            int f = s.stair(60, 1);
            int g = s.ray(1);
            s.is("unlike(f, f)", s.x.unlike(f, f), -1);
            s.is("unlike(f, g)", s.x.unlike(f, g), 1);
            s.is("unlike(g, f)", s.x.unlike(g, f), 1);
        });
        holds("P of 62 is BEYOND", s -> {
            int f = s.stair(2, 1);
            int g = s.stair(31, 1);
            beyondByStep(s, f, g);
            beyondByStep(s, g, f);
        });
        holds("P of 63 is BEYOND", s -> {
            int f = s.stair(7, 1);
            int g = s.stair(9, 1);
            beyondByStep(s, f, g);
            beyondByStep(s, g, f);
        });
        holds("P of 3540 is BEYOND", s -> {
            int f = s.stair(59, 1);
            int g = s.stair(60, 1);
            beyondByStep(s, f, g);
            beyondByStep(s, g, f);
        });
        holds("P is of the least STEPS: 62 told as 31 does", s -> {
            int f = s.made(2, 2, 0, 1);
            int g = s.stair(31, 1);
            s.is("unlike(f, g)", s.x.unlike(f, g), 1);
        });
        holds("BEYOND by P is ahead of ENDLESS", s -> {
            int f = s.stair(7, 100);
            int g = s.stair(9, 1);
            s.refused("OFF", s.x.of(OFF, f, g), BEYOND);
            s.no("heap", s.x.heap(f, g), -1, BEYOND);
            s.refused("wait", s.x.wait(f, g), BEYOND);
        });
    }

    private static void beyondByStep(Sentence s, int f, int g) {
        for (int way = SUM; way <= OFF; way++) {
            s.refused("of(" + way + ")", s.x.of(way, f, g), BEYOND);
        }
        s.no("unlike", s.x.unlike(f, g), -2, BEYOND);
        s.refused("below", s.x.below(f, g), BEYOND);
        s.no("heap", s.x.heap(f, g), -1, BEYOND);
        s.refused("wait", s.x.wait(f, g), BEYOND);
    }

    // ---- KINDS

    private static void kind(Sentence s, int f, int kind) {
        s.is("about(f, 3)", s.x.about(f, KIND), kind);
    }

    private static void burstKind() {
        holds("1 BURST: b above c by 1", s -> kind(s, s.burst(3, 2), 1));
        holds("1 BURST: c is 0", s -> kind(s, s.burst(1, 0), 1));
        holds("1 BURST: b is c: it is 2 RAY", s -> kind(s, s.burst(2, 2), 2));
        holds("1 BURST: b is below c: it is 0 CURVE", s -> kind(s, s.burst(1, 2), 0));
        holds("1 BURST: b is 0: it is 3 LATE", s -> kind(s, s.burst(0, 2), 3));
        holds("1 BURST: f(0) is 1: it is 0 CURVE", s -> kind(s, s.made(1, 2, 1, 9), 0));
        holds("1 BURST: from t 1 on, not from 2 on", s -> kind(s, s.made(1, 2, 0, 9, 12), 0));
        holds("1 BURST: a jump at 2 is 0 CURVE", s -> kind(s, s.made(1, 2, 0, 0, 9), 0));
        holds("1 BURST: d is 1", s -> kind(s, s.made(2, 2, 0, 9, 9), 0));
        holds("1 BURST: greatest", s -> kind(s, s.burst(TOP, BILLION), 1));
        holds("1 BURST: told of a longer row", s -> kind(s, s.made(3, 6, 0, 9, 11, 13, 15), 1));
        holds("1 BURST: of two, a RAY and a flat one", s -> {
            int f = s.burst(5, 0);
            int g = s.ray(2);
            kind(s, s.of(SUM, f, g), 1);
        });
    }

    private static void rayKind() {
        holds("2 RAY: c is 0", s -> kind(s, s.ray(0), 2));
        holds("2 RAY: c is 1000000000", s -> kind(s, s.ray(BILLION), 2));
        holds("2 RAY: told of a row of zeros", s -> kind(s, s.late(9, 0), 2));
        holds("2 RAY: told of a row", s -> kind(s, s.made(3, 6, 0, 2, 4), 2));
        holds("2 RAY: f(0) is 1: it is 0 CURVE", s -> kind(s, s.made(1, 2, 1), 0));
        holds("2 RAY: flat above 0 is 0 CURVE", s -> kind(s, s.flat(1), 0));
    }

    private static void lateKind() {
        holds("3 LATE: L is 1", s -> kind(s, s.late(1, 1), 3));
        holds("3 LATE: L is 200", s -> kind(s, s.late(200, BILLION), 3));
        holds("3 LATE: L is 0: it is 2 RAY", s -> kind(s, s.late(0, 4), 2));
        holds("3 LATE: c above 0; of 0 it is 2 RAY", s -> kind(s, s.late(4, 0), 2));
        holds("3 LATE: up to L and c (t - L) behind it, no jump", s -> kind(s, s.made(1, 2, 0, 0, 3), 0));
        holds("3 LATE: not 1 up to L", s -> kind(s, s.made(1, 2, 1, 1), 0));
        holds("3 LATE: a RAY SHIFTED", s -> {
            int f = s.ray(3);
            kind(s, s.x.shift(f, 1), 3);
            kind(s, s.x.shift(f, 0), 2);
        });
    }

    private static void stairKind() {
        holds("4 STAIR: d is 2, c is 1", s -> kind(s, s.stair(2, 1), 4));
        holds("4 STAIR: d is 60, c is 1000000000", s -> kind(s, s.stair(60, BILLION), 4));
        holds("4 STAIR: d is 1: it is 2 RAY", s -> kind(s, s.stair(1, 4), 2));
        holds("4 STAIR: c above 0; of 0 it is 2 RAY", s -> kind(s, s.stair(5, 0), 2));
        holds("4 STAIR: for all t: one 0 more is 0 CURVE", s -> kind(s, s.made(3, 2, 0, 0, 0, 0), 0));
        holds("4 STAIR: for all t: one 0 less is 0 CURVE", s -> kind(s, s.made(3, 2, 0, 0, 2), 0));
        holds("4 STAIR: (t / d, cut): f(0) is 0", s -> kind(s, s.made(3, 2, 1, 1, 1), 0));
        holds("4 STAIR: SHIFTED it is 0 CURVE", s -> {
            int f = s.stair(3, 2);
            kind(s, s.x.shift(f, 3), 0);
            kind(s, s.x.shift(f, 0), 4);
            kind(s, s.x.times(f, 5), 4);
            kind(s, s.x.times(f, 0), 2);
        });
    }

    // ---- 2 OF CURVES f, g

    private static void sideBySide() {
        holds("SUM, LEAST, MOST at 0", s -> {
            int f = s.made(1, 2, 3);
            int g = s.made(1, 1, 5);
            s.amounts(s.of(SUM, f, g), 8, 11, 14);
            s.amounts(s.of(LEAST, f, g), 3, 5, 7, 8, 9);
            s.amounts(s.of(MOST, f, g), 5, 6, 7, 9, 11);
        });
        holds("of a CURVE and itself", s -> {
            int f = s.made(2, 3, 1, 2);
            s.is("LEAST", s.x.unlike(f, s.of(LEAST, f, f)), -1);
            s.is("MOST", s.x.unlike(f, s.of(MOST, f, f)), -1);
            s.is("SUM", s.x.unlike(s.x.times(f, 2), s.of(SUM, f, f)), -1);
            s.is("REST", s.x.unlike(s.ray(0), s.of(REST, f, f)), -1);
        });
        holds("TIMES 0 is 0 at each t", s -> {
            int f = s.made(2, 3, 1, 2);
            s.is("TIMES 0", s.x.unlike(s.x.times(f, 0), s.ray(0)), -1);
        });
        holds("SHIFTED by n: 0 for t below n, f(0) at n", s -> {
            int f = s.made(1, 1, 4);
            s.amounts(s.x.shift(f, 2), 0, 0, 4, 5, 6);
            s.amounts(s.x.shift(f, 1), 0, 4, 5, 6);
            s.amounts(s.x.shift(f, 0), 4, 5, 6);
        });
    }

    private static void rest() {
        holds("REST: s from 0: f(0) - g(0) counts for ever", s -> {
            int h = s.of(REST, s.flat(5), s.made(1, 1, 2));
            s.amounts(h, 3, 3, 3);
            s.terms(h, 0, 1, 0);
        });
        holds("REST: s to t: f(t) - g(t) counts at t", s -> {
            int f = s.made(1, 0, 0, 1, 9);
            int h = s.of(REST, f, s.made(1, 0, 0, 0, 0, 4));
            s.amounts(h, 0, 1, 9, 9);
        });
        holds("REST: 0 where that is below, 0 where it is 0, 1 where it is 1", s -> {
            int h = s.of(REST, s.ray(1), s.flat(2));
            s.amounts(h, 0, 0, 0, 1, 2);
        });
        holds("REST: the greatest of what was, though f - g falls", s -> {
            int h = s.of(REST, s.burst(9, 0), s.ray(2));
            s.amounts(h, 0, 7, 7, 7, 7, 7);
        });
        holds("REST of the greater RATE is not ENDLESS", s -> s.amounts(s.of(REST, s.ray(3), s.ray(1)), 0, 2, 4));
    }

    private static void both() {
        holds("BOTH: s from 0: f(0) + g(t)", s -> {
            int f = s.made(1, 100, 1, 50);
            int g = s.made(1, 1, 3);
            s.amounts(s.of(BOTH, f, g), 4, 5, 6, 7);
        });
        holds("BOTH: s to t: f(t) + g(0)", s -> {
            int f = s.made(1, 1, 3);
            int g = s.made(1, 100, 1, 50);
            s.amounts(s.of(BOTH, f, g), 4, 5, 6, 7);
        });
        holds("BOTH: s between", s -> {
            int f = s.made(1, 9, 0, 0, 9);
            int g = s.made(1, 7, 0, 0, 0, 7);
            s.amounts(s.of(BOTH, f, g), 0, 0, 0, 0, 7, 14);
        });
        holds("BOTH: s far behind, t - s small: g(2) is cheap for ever", s -> {
            int f = s.ray(1);
            int g = s.made(1, 100, 3, 3, 3);
            int h = s.of(BOTH, f, g);
            s.amounts(h, 3, 3, 3, 4, 5, 6);
            s.terms(h, 2, 1, 1);
        });
        holds("BOTH: s small, t - s far behind: f(2) is cheap for ever", s -> {
            int f = s.made(1, 100, 3, 3, 3);
            int g = s.ray(1);
            int h = s.of(BOTH, f, g);
            s.amounts(h, 3, 3, 3, 4, 5, 6);
            s.terms(h, 2, 1, 1);
        });
        holds("BOTH: t - s is 1, and s is 1", s -> {
            int f = s.ray(10);
            int g = s.made(1, 100, 3, 4);
            s.amounts(s.of(BOTH, f, g), 3, 4, 14, 24, 34);
            s.amounts(s.of(BOTH, g, f), 3, 4, 14, 24, 34);
        });
        holds("BOTH: at 0 it is f(0) + g(0)", s -> s.amounts(s.of(BOTH, s.flat(2), s.flat(3)), 5, 5));
        holds("BOTH of STEPS 4 and 6 over P 12", s -> {
            int f = s.made(4, 4, 0, 0, 0, 4);
            int g = s.made(6, 6, 0, 6, 6, 6, 6, 6);
            s.amounts(s.of(BOTH, f, g), 0, 0, 0, 4, 4, 4, 4, 6, 6, 8, 8, 10, 10, 12, 12, 14);
        });
        holds("BOTH with 0 is 0, as 0 is RAY 0", s -> {
            int f = s.ray(0);
            int g = s.burst(8, 3);
            s.is("BOTH", s.x.unlike(s.of(BOTH, f, g), f), -1);
        });
    }

    private static void off() {
        holds("OFF: all u from 0 on: u 0 leads", s -> s.amounts(s.of(OFF, s.ray(1), s.ray(2)), 0, 1, 2, 3));
        holds("OFF: all u: the one at T of f leads", s -> {
            int f = s.jump(200, 500);
            int g = s.ray(1);
            int h = s.of(OFF, f, g);
            s.amounts(h, 300, 301, 302);
            s.is("at(h, 200)", s.x.at(h, 200), 500);
        });
        holds("OFF: all u: the one at T of g leads", s -> {
            int f = s.ray(2);
            int g = s.late(200, 2);
            s.amounts(s.of(OFF, f, g), 400, 402);
        });
        holds("OFF: all u: the last of a turn behind T leads", s -> {
            int f = s.made(60, 60, ends(60));
            int g = s.late(120, 1);
            int h = s.of(OFF, f, g);
            s.is("at(h, 0)", s.x.at(h, 0), 121);
        });
        holds("OFF: all u: T 200 and the last of a turn of 60 behind it leads", s -> {
            s.again(259);
            s.x.put(60);
            int f = s.x.curve(60, 60);
            s.terms(f, 199, 60, 60);
            int g = s.late(200, 1);
            int h = s.of(OFF, f, g);
            s.is("at(h, 0)", s.x.at(h, 0), 1);
            s.is("at(h, 1)", s.x.at(h, 1), 2);
        });
        holds("OFF: 0 where that is below, then 1", s -> {
            int h = s.of(OFF, s.ray(1), s.made(1, 1, 2));
            s.amounts(h, 0, 0, 0, 1, 2);
        });
        holds("OFF: 0 where that is below, for ever", s -> s.amounts(s.of(OFF, s.flat(1), s.flat(2)), 0, 0));
        holds("OFF: ENDLESS, if the RATE of f is above that of g", s -> {
            int f = s.ray(2);
            int g = s.made(1, 1, TOP);
            s.refused("OFF", s.x.of(OFF, f, g), ENDLESS);
        });
        holds("OFF: RATES by STEPS: 3 / 2 is above 4 / 3, not above 3 / 2 of 6 / 4", s -> {
            int f = s.stair(2, 3);
            int g = s.stair(3, 4);
            int h = s.made(4, 6, 0, 0, 0, 0);
            s.refused("OFF", s.x.of(OFF, f, g), ENDLESS);
            s.of(OFF, g, f);
            s.of(OFF, f, h);
            s.of(OFF, h, f);
        });
        holds("OFF: ENDLESS ahead of BEYOND", s -> {
            int f = s.ray(BILLION);
            int g = s.late(200, 1);
            s.refused("OFF", s.x.of(OFF, f, g), ENDLESS);
        });
    }

    /** A turn in which all comes in its last span. */
    private static long[] ends(int d) {
        long[] amounts = new long[d];
        amounts[d - 1] = d;
        return amounts;
    }

    private static void isClosed(Sentence s, int f, int closed) {
        s.is("about(f, 4)", s.x.about(f, CLOSED), closed);
    }

    private static void closed() {
        holds("CLOSED: f(0) is 0", s -> isClosed(s, s.ray(1), 1));
        holds("CLOSED: f(0) is 1: it is not", s -> isClosed(s, s.flat(1), 0));
        holds("CLOSED: f(s + t) is f(s) + f(t): never above", s -> isClosed(s, s.made(1, 0, 0, 1, 2, 3), 1));
        holds("CLOSED: f(s + t) is one above, s is t", s -> isClosed(s, s.made(1, 0, 0, 1, 3), 0));
        holds("CLOSED: f(s + t) is one above, s is not t", s -> isClosed(s, s.made(1, 0, 0, 5, 6, 12), 0));
        holds("CLOSED: f(s + t) is as much, s is not t", s -> isClosed(s, s.made(1, 0, 0, 5, 6, 11), 1));
        holds("CLOSED: RAY 0", s -> isClosed(s, s.ray(0), 1));
        holds("CLOSED: LATE is not", s -> isClosed(s, s.late(1, 1), 0));
        holds("CLOSED: STAIR is not", s -> isClosed(s, s.stair(2, 1), 0));
        holds("CLOSED: BURST is", s -> isClosed(s, s.burst(2, 1), 1));
        holds("CLOSED: above only behind T + d", s -> isClosed(s, s.made(1, 2, 0, 2, 3), 0));
        holds("CLOSED: s and t of T + d - 1 alone", s -> {
            isClosed(s, s.made(3, 7, 0, 5, 6), 1);
            isClosed(s, s.made(3, 8, 0, 5, 6), 0);
        });
        holds("CLOSED: T 200, s 1 and t 199", s -> {
            s.row(0, 10);
            s.again(198);
            s.row(20);
            isClosed(s, s.x.curve(1, 0), 1);
            s.row(0, 10);
            s.again(198);
            s.row(21);
            isClosed(s, s.x.curve(1, 0), 0);
        });
        holds("CLOSED: T 200, s and t of 200 alone", s -> {
            s.row(0, 199);
            s.again(199);
            int f = s.x.curve(1, 1);
            s.terms(f, 200, 1, 1);
            isClosed(s, f, 0);
            s.row(0, 199);
            s.again(198);
            isClosed(s, s.x.curve(1, 1), 1);
        });
    }

    private static void below() {
        holds("BELOW: itself, as f(t) is above for no t", s -> {
            int f = s.made(2, 3, 1, 2);
            s.is("below(f, f)", s.x.below(f, f), 1);
        });
        holds("BELOW: above at 0 alone", s -> {
            int f = s.made(1, 1, 1, 1);
            int g = s.ray(1);
            s.is("below(f, g)", s.x.below(f, g), 0);
            s.is("below(g, f)", s.x.below(g, f), 1);
        });
        holds("BELOW: above at T alone", s -> {
            s.is("below", s.x.below(s.made(1, 0, 0, 0, 5), s.made(1, 1, 0, 0, 4)), 0);
            s.is("below, the same at T", s.x.below(s.made(1, 0, 0, 0, 5), s.made(1, 1, 0, 0, 5)), 1);
        });
        holds("BELOW: above at the last of a turn", s -> {
            int f = s.made(60, 60, ends(60));
            int g = s.x.shift(s.ray(1), 0);
            s.is("below(f, g)", s.x.below(f, g), 0);
            s.is("below(f, h)", s.x.below(f, s.made(1, 1, 1)), 1);
        });
        holds("BELOW: above by RATE, a million millions off", s -> {
            int f = s.ray(1);
            int g = s.flat(TOP);
            s.is("below(f, g)", s.x.below(f, g), 0);
        });
        holds("BELOW: RATES a little apart, 60 / 60 and 61 / 60", s -> {
            int g = s.made(60, 60, ends(60));
            int f = s.made(60, 61, ends(60));
            s.is("below(f, g)", s.x.below(f, g), 0);
            s.is("below(g, f)", s.x.below(g, f), 1);
        });
    }

    private static void heap() {
        holds("HEAP: 0 at least", s -> {
            int f = s.flat(1);
            int g = s.flat(5);
            s.is("heap(f, g)", s.x.heap(f, g), 0);
        });
        holds("HEAP: the greatest at 0", s -> s.is("heap", s.x.heap(s.flat(5), s.made(1, 1, 2)), 3));
        holds("HEAP: the greatest at T 200", s -> s.is("heap", s.x.heap(s.jump(200, 205), s.ray(1)), 5));
        holds("HEAP: the greatest at the last of a turn behind T", s -> {
            int f = s.made(60, 60, ends(60));
            s.is("heap", s.x.heap(f, s.ray(1)), 1);
        });
        holds("HEAP of the same RATE is not ENDLESS", s -> s.is("heap", s.x.heap(s.burst(7, 2), s.ray(2)), 5));
        holds("HEAP: ENDLESS, if the RATE of f is above that of g", s -> {
            int f = s.stair(60, 2);
            s.no("heap", s.x.heap(s.ray(1), s.flat(TOP)), -1, ENDLESS);
            s.no("heap", s.x.heap(f, s.stair(60, 1)), -1, ENDLESS);
            s.is("heap", s.x.heap(s.stair(60, 1), f), 0);
        });
    }

    private static void waits() {
        holds("WAIT: 0, if f is BELOW g", s -> {
            int f = s.ray(1);
            s.is("wait(f, f)", s.x.wait(f, f), 0);
            s.is("wait(f, 2 f)", s.x.wait(f, s.ray(2)), 0);
        });
        holds("WAIT: 1, if one span is wanted", s -> s.is("wait", s.x.wait(s.ray(3), s.late(1, 3)), 1));
        holds("WAIT: f(0) is to be waited for too", s -> s.is("wait", s.x.wait(s.flat(5), s.ray(1)), 5));
        holds("WAIT: the longest at T 200", s -> s.is("wait", s.x.wait(s.jump(200, 207), s.ray(1)), 7));
        holds("WAIT: the longest at the last of a turn behind T", s -> {
            int f = s.made(60, 60, ends(60));
            s.is("wait", s.x.wait(f, s.ray(1)), 1);
        });
        holds("WAIT: 1000000000", s -> s.is("wait", s.x.wait(s.flat(BILLION), s.ray(1)), BILLION));
        holds("WAIT: ENDLESS, if it is 1000000001", s -> {
            s.refused("wait", s.x.wait(s.flat(BILLION + 1L), s.ray(1)), ENDLESS);
        });
        holds("WAIT: 1000000000 and 1000000001 of a t above 0", s -> {
            int g = s.ray(1);
            s.is("wait", s.x.wait(s.jump(200, BILLION + 200L), g), BILLION);
            s.refused("wait", s.x.wait(s.jump(200, BILLION + 201L), g), ENDLESS);
        });
        holds("WAIT: ENDLESS, if there is none: g stays below", s -> {
            int f = s.flat(5);
            s.refused("wait(f, 4)", s.x.wait(f, s.jump(9, 4)), ENDLESS);
            s.is("wait(f, 5)", s.x.wait(f, s.jump(9, 5)), 9);
        });
        holds("WAIT: ENDLESS, if there is none: the RATE of f is above", s -> {
            int f = s.ray(2);
            int g = s.ray(1);
            s.refused("wait(f, g)", s.x.wait(f, g), ENDLESS);
            s.is("wait(g, f)", s.x.wait(g, f), 0);
        });
        holds("WAIT of the same RATE is not ENDLESS", s -> s.is("wait", s.x.wait(s.burst(9, 2), s.ray(2)), 4));
    }
}
