import java.util.function.Consumer;

/** The edges that the document names in promises 11 to 18: what is told of curves. */
public final class EdgesOfTellingTest {
    private static final int BILLION = Sentence.BILLION;
    private static final long TOP = Sentence.TOP;
    private static final int BAD = Sentence.BAD, BEYOND = Sentence.BEYOND, ENDLESS = Sentence.ENDLESS;

    public static void main(String[] args) {
        atBounds();
        atOfKinds();
        about();
        rate();
        unlike();
        below();
        first();
        heap();
        waits();
        Sentence.end("EdgesOfTellingTest");
    }

    private static void holds(String words, Consumer<Sentence> test) {
        Sentence.holds(words, test);
    }

    private static void atBounds() {
        holds("11: t 0", s -> s.is("at(f, 0)", s.x.at(s.flat(6), 0), 6));
        holds("11: t 1000000000", s -> s.is("at", s.x.at(s.ray(3), BILLION), 3L * BILLION));
        holds("11: t -1 is BAD: -1", s -> s.no("at(f, -1)", s.x.at(s.ray(3), -1), -1, BAD));
        holds("11: t 1000000001 is BAD: -1", s -> s.no("at", s.x.at(s.ray(3), BILLION + 1), -1, BAD));
        holds("11: t far out of its bounds is BAD: -1", s -> {
            s.ray(3);
            s.no("at", s.x.at(0, Integer.MIN_VALUE), -1, BAD);
            s.no("at", s.x.at(0, Integer.MAX_VALUE), -1, BAD);
        });
        holds("11: no such CURVE is BAD: -1", s -> {
            s.ray(3);
            s.no("at(1, 0)", s.x.at(1, 0), -1, BAD);
            s.no("at(-1, 0)", s.x.at(-1, 0), -1, BAD);
            s.no("at", s.x.at(Integer.MAX_VALUE, 0), -1, BAD);
            s.no("at", s.x.at(Integer.MIN_VALUE, 0), -1, BAD);
        });
        holds("11: the greatest AMOUNT of all", s -> {
            int f = s.made(1, BILLION, TOP);
            s.is("at", s.x.at(f, BILLION), TOP + (long) BILLION * BILLION);
        });
        holds("11: around T and T + d", s -> {
            int f = s.made(3, 10, 0, 1, 5, 6, 9);
            s.terms(f, 2, 3, 10);
            s.amounts(f, 0, 1, 5, 6, 9, 15, 16, 19, 25, 26, 29);
        });
        holds("11: around T 200 and T + d 260", s -> {
            s.again(200);
            s.x.put(5);
            s.again(58);
            s.x.put(9);
            int f = s.x.curve(60, 20);
            s.terms(f, 200, 60, 20);
            long[][] wanted = {{199, 0}, {200, 5}, {258, 5}, {259, 9}, {260, 25}, {318, 25}, {319, 29}, {320, 45}};
            for (long[] pair : wanted) {
                s.is("at(f, " + pair[0] + ")", s.x.at(f, (int) pair[0]), pair[1]);
            }
            s.is("at(f, 1000000000)", s.x.at(f, BILLION), 5 + 20L * ((BILLION - 200) / 60));
        });
    }

    private static void atOfKinds() {
        holds("11: of a BURST: 0 at 0, b at 1, c more behind it", s -> {
            int f = s.burst(7, 3);
            s.amounts(f, 0, 7, 10, 13);
            s.is("at, far", s.x.at(f, BILLION), 7 + 3L * (BILLION - 1));
        });
        holds("11: of the greatest BURST", s -> {
            int f = s.burst(TOP, BILLION);
            s.is("at(f, 1)", s.x.at(f, 1), TOP);
            s.is("at, far", s.x.at(f, BILLION), TOP + (long) BILLION * (BILLION - 1));
        });
        holds("11: of a RAY, the greatest", s -> {
            int f = s.ray(BILLION);
            s.amounts(f, 0, BILLION, 2L * BILLION, 3L * BILLION);
            s.is("at, far", s.x.at(f, BILLION), (long) BILLION * BILLION);
        });
        holds("11: of a LATE: 0 at L, c at L + 1", s -> {
            int f = s.late(2, BILLION);
            s.amounts(f, 0, 0, 0, BILLION, 2L * BILLION, 3L * BILLION);
            s.is("at, far", s.x.at(f, BILLION), (long) BILLION * (BILLION - 2));
        });
        holds("11: of a STAIR: 0 at d - 1, c at d, c at 2 d - 1", s -> {
            int f = s.stair(3, BILLION);
            s.amounts(f, 0, 0, 0, BILLION, BILLION, BILLION, 2L * BILLION, 2L * BILLION, 2L * BILLION, 3L * BILLION);
            s.is("at, far", s.x.at(f, BILLION), (long) BILLION * 333333333);
        });
        holds("11: of a STAIR of 2", s -> {
            int f = s.stair(2, BILLION);
            s.amounts(f, 0, 0, BILLION, BILLION, 2L * BILLION, 2L * BILLION, 3L * BILLION);
        });
    }

    private static void about() {
        holds("12: what 0 to 4", s -> {
            int f = s.made(2, 3, 0, 5, 6);
            long[] wanted = {1, 2, 3, 0, 1};
            for (int what = 0; what < wanted.length; what++) {
                s.is("about(f, " + what + ")", s.x.about(f, what), wanted[what]);
            }
        });
        holds("12: what -1 is BAD", s -> {
            s.ray(1);
            s.refused("about(0, -1)", s.x.about(0, -1), BAD);
            s.refused("about", s.x.about(0, Integer.MIN_VALUE), BAD);
        });
        holds("12: what 5 is BAD", s -> {
            s.ray(1);
            s.refused("about(0, 5)", s.x.about(0, 5), BAD);
            s.refused("about", s.x.about(0, Integer.MAX_VALUE), BAD);
        });
        holds("12: no such CURVE is BAD", s -> {
            s.ray(1);
            for (int what = -1; what <= 5; what++) {
                s.refused("about(1, " + what + ")", s.x.about(1, what), BAD);
                s.refused("about(-1, " + what + ")", s.x.about(-1, what), BAD);
            }
        });
        holds("12: greatest START, STEP, GAIN", s -> {
            s.again(259);
            s.x.put(5);
            int f = s.x.curve(60, BILLION);
            s.terms(f, 200, 60, BILLION);
        });
        holds("12: least START, STEP, GAIN", s -> s.terms(s.flat(4), 0, 1, 0));
    }

    private static void rates(Sentence s, int f, int upper, int lower) {
        s.is("rate(f, 0)", s.x.rate(f, 0), upper);
        s.is("rate(f, 1)", s.x.rate(f, 1), lower);
    }

    private static void rate() {
        holds("13: 1 is the lower one of a RATE 0", s -> {
            rates(s, s.ray(0), 0, 1);
            rates(s, s.jump(60, 9), 0, 1);
        });
        holds("13: least figures: 60 / 60 is 1 / 1", s -> rates(s, s.stair(60, 60), 1, 1));
        holds("13: least figures: 1 / 60", s -> rates(s, s.stair(60, 1), 1, 60));
        holds("13: least figures: 59 / 60", s -> rates(s, s.stair(60, 59), 59, 60));
        holds("13: least figures: 6 / 4 is 3 / 2", s -> rates(s, s.stair(4, 6), 3, 2));
        holds("13: least figures: 8 / 12 is 2 / 3", s -> rates(s, s.stair(12, 8), 2, 3));
        holds("13: least figures: 1000000000 / 60 is 50000000 / 3", s -> rates(s, s.stair(60, BILLION), 50000000, 3));
        holds("13: least figures: 1000000000 / 1", s -> rates(s, s.ray(BILLION), BILLION, 1));
        holds("13: least figures: 4 / 2 is 2 / 1", s -> rates(s, s.stair(2, 4), 2, 1));
        holds("13: what -1 is BAD", s -> {
            s.ray(1);
            s.refused("rate(0, -1)", s.x.rate(0, -1), BAD);
        });
        holds("13: what 2 is BAD", s -> {
            s.ray(1);
            s.refused("rate(0, 2)", s.x.rate(0, 2), BAD);
            s.refused("rate", s.x.rate(0, Integer.MAX_VALUE), BAD);
        });
        holds("13: no such CURVE is BAD", s -> {
            s.ray(1);
            s.refused("rate(1, 0)", s.x.rate(1, 0), BAD);
            s.refused("rate(-1, 1)", s.x.rate(-1, 1), BAD);
        });
    }

    private static void unlike() {
        holds("14: -1: they are the same, and status() is 0", s -> {
            int f = s.made(2, 3, 1, 2);
            s.is("unlike(f, f)", s.x.unlike(f, f), -1);
            s.is("unlike of two made alike", s.x.unlike(f, s.made(4, 6, 1, 2, 4, 5)), -1);
        });
        holds("14: the least SPAN: 0", s -> s.is("unlike", s.x.unlike(s.flat(1), s.flat(2)), 0));
        holds("14: the least SPAN: the last below T", s -> {
            int f = s.made(1, 1, 0, 0, 0, 5);
            int g = s.made(1, 1, 0, 0, 3, 5);
            s.is("unlike(f, g)", s.x.unlike(f, g), 2);
            s.is("unlike(g, f)", s.x.unlike(g, f), 2);
        });
        holds("14: the least SPAN: at T + d, as the GAINS part there", s -> {
            int f = s.late(200, 1);
            int g = s.ray(0);
            s.is("unlike(f, g)", s.x.unlike(f, g), 201);
            s.is("unlike(g, f)", s.x.unlike(g, f), 201);
        });
        holds("14: the least SPAN: T 200 and P 60: 260", s -> {
            s.again(200);
            s.x.put(5);
            s.again(59);
            int g = s.x.curve(60, 1);
            int h = s.jump(200, 5);
            s.terms(g, 200, 60, 1);
            s.is("unlike(g, h)", s.x.unlike(g, h), 260);
            s.is("unlike(h, g)", s.x.unlike(h, g), 260);
        });
        holds("14: -2, not -1, is told of BAD", s -> {
            s.ray(1);
            s.no("unlike(0, 1)", s.x.unlike(0, 1), -2, BAD);
            s.no("unlike(1, 0)", s.x.unlike(1, 0), -2, BAD);
            s.no("unlike(-1, 0)", s.x.unlike(-1, 0), -2, BAD);
            s.no("unlike(0, -1)", s.x.unlike(0, -1), -2, BAD);
        });
        holds("14: -2, not -4, is told of BEYOND", s -> {
            int f = s.stair(2, 1);
            int g = s.stair(31, 1);
            s.no("unlike(f, g)", s.x.unlike(f, g), -2, BEYOND);
        });
        holds("14: BY P: BEYOND, though they are unlike at 0", s -> {
            int f = s.made(2, 3, 1, 1);
            int g = s.stair(31, 1);
            s.no("unlike(f, g)", s.x.unlike(f, g), -2, BEYOND);
        });
    }

    private static void below() {
        holds("15: 1 and 0", s -> {
            s.ray(1);
            s.ray(2);
            s.is("below(0, 1)", s.x.below(0, 1), 1);
            s.is("below(1, 0)", s.x.below(1, 0), 0);
        });
        holds("15: the same: 1", s -> {
            s.flat(3);
            s.is("below(0, 0)", s.x.below(0, 0), 1);
        });
        holds("15: above by 1 at one t: 0", s -> {
            int f = s.made(1, 1, 0, 2);
            int g = s.ray(1);
            s.is("below(f, g)", s.x.below(f, g), 0);
            s.is("below, at 1 alone", s.x.below(s.made(1, 1, 0, 2, 2), g), 0);
        });
        holds("15: no such CURVE is BAD", s -> {
            s.ray(1);
            s.refused("below(0, 1)", s.x.below(0, 1), BAD);
            s.refused("below(1, 0)", s.x.below(1, 0), BAD);
            s.refused("below(-1, 0)", s.x.below(-1, 0), BAD);
            s.refused("below(0, -1)", s.x.below(0, -1), BAD);
        });
        holds("15: BEYOND by P, though f(0) is above", s -> {
            int f = s.made(2, 3, 1, 1);
            int g = s.stair(31, 1);
            s.refused("below(f, g)", s.x.below(f, g), BEYOND);
        });
        holds("15: BEYOND by P, though the RATE of f is above", s -> {
            int f = s.stair(2, 90);
            int g = s.stair(31, 1);
            s.refused("below(f, g)", s.x.below(f, g), BEYOND);
        });
    }

    private static void first() {
        holds("16: v 0: t 0", s -> {
            s.is("first(f, 0)", s.x.first(s.ray(1), 0), 0);
            s.is("first(zeros, 0)", s.x.first(s.ray(0), 0), 0);
        });
        holds("16: v -1 is BAD", s -> {
            s.ray(1);
            s.refused("first(0, -1)", s.x.first(0, -1), BAD);
            s.refused("first", s.x.first(0, Long.MIN_VALUE), BAD);
        });
        holds("16: at least v: the same is enough, one below is not", s -> {
            int f = s.made(1, 10, 5);
            s.is("first(f, 5)", s.x.first(f, 5), 0);
            s.is("first(f, 6)", s.x.first(f, 6), 1);
            s.is("first(f, 15)", s.x.first(f, 15), 1);
            s.is("first(f, 16)", s.x.first(f, 16), 2);
        });
        holds("16: the least t of many with the same AMOUNT", s -> {
            int f = s.stair(60, 4);
            s.is("first(f, 4)", s.x.first(f, 4), 60);
            s.is("first(f, 5)", s.x.first(f, 5), 120);
            s.is("first(f, 8)", s.x.first(f, 8), 120);
        });
        holds("16: 1000000000 at most", s -> {
            int f = s.ray(1);
            s.is("first", s.x.first(f, BILLION - 1), BILLION - 1);
            s.is("first", s.x.first(f, BILLION), BILLION);
        });
        holds("16: ENDLESS: t would be 1000000001", s -> {
            int f = s.ray(1);
            s.refused("first", s.x.first(f, BILLION + 1L), ENDLESS);
        });
        holds("16: ENDLESS: t would be 1000000001 of a RAY of 1000000000", s -> {
            int f = s.ray(BILLION);
            s.is("first", s.x.first(f, (long) BILLION * BILLION), BILLION);
            s.refused("first", s.x.first(f, (long) BILLION * BILLION + 1), ENDLESS);
        });
        holds("16: ENDLESS: there is none", s -> {
            int f = s.flat(5);
            s.is("first(f, 5)", s.x.first(f, 5), 0);
            s.refused("first(f, 6)", s.x.first(f, 6), ENDLESS);
            s.refused("first", s.x.first(f, Long.MAX_VALUE), ENDLESS);
            s.refused("first of zeros", s.x.first(s.ray(0), 1), ENDLESS);
        });
        holds("16: at T 200 and around", s -> {
            int f = s.late(200, 7);
            s.is("first(f, 1)", s.x.first(f, 1), 201);
            s.is("first(f, 7)", s.x.first(f, 7), 201);
            s.is("first(f, 8)", s.x.first(f, 8), 202);
        });
        holds("16: no such CURVE is BAD", s -> {
            s.ray(1);
            s.refused("first(1, 0)", s.x.first(1, 0), BAD);
            s.refused("first(-1, 0)", s.x.first(-1, 0), BAD);
        });
        holds("16: BAD is ahead of ENDLESS", s -> {
            s.ray(0);
            s.refused("first(1, 9)", s.x.first(1, 9), BAD);
        });
    }

    private static void heap() {
        holds("17: -1 of BAD", s -> {
            s.ray(1);
            s.no("heap(0, 1)", s.x.heap(0, 1), -1, BAD);
            s.no("heap(1, 0)", s.x.heap(1, 0), -1, BAD);
            s.no("heap(-1, 0)", s.x.heap(-1, 0), -1, BAD);
            s.no("heap(0, -1)", s.x.heap(0, -1), -1, BAD);
        });
        holds("17: -1 of BEYOND", s -> {
            int f = s.stair(2, 1);
            int g = s.stair(31, 100);
            s.no("heap(f, g)", s.x.heap(f, g), -1, BEYOND);
        });
        holds("17: -1 of ENDLESS", s -> {
            int f = s.ray(2);
            int g = s.ray(1);
            s.no("heap(f, g)", s.x.heap(f, g), -1, ENDLESS);
        });
        holds("17: -1 of BEYOND, ahead of ENDLESS", s -> {
            int f = s.stair(2, 100);
            int g = s.stair(31, 1);
            s.no("heap(f, g)", s.x.heap(f, g), -1, BEYOND);
        });
        holds("17: 0 of a CURVE by itself, and status() is 0", s -> {
            int f = s.made(2, 3, 1, 2);
            s.is("heap(f, f)", s.x.heap(f, f), 0);
        });
        holds("17: 1000000000000", s -> {
            int f = s.flat(TOP);
            s.is("heap", s.x.heap(f, s.ray(0)), TOP);
            s.is("heap", s.x.heap(f, s.ray(BILLION)), TOP);
        });
        holds("17: above 1000000000000, as f grows behind T of f", s -> {
            int f = s.made(1, BILLION, TOP);
            int g = s.late(200, BILLION);
            s.is("heap", s.x.heap(f, g), TOP + 200L * BILLION);
        });
        holds("17: greatest RATES that are the same, in other STEPS", s -> {
            int f = s.stair(2, BILLION);
            int g = s.ray(BILLION / 2);
            s.is("heap(f, g)", s.x.heap(f, g), 0);
            s.is("heap(g, f)", s.x.heap(g, f), BILLION / 2);
        });
    }

    private static void waits() {
        holds("18: no such CURVE is BAD", s -> {
            s.ray(1);
            s.refused("wait(0, 1)", s.x.wait(0, 1), BAD);
            s.refused("wait(1, 0)", s.x.wait(1, 0), BAD);
            s.refused("wait(-1, 0)", s.x.wait(-1, 0), BAD);
            s.refused("wait(0, -1)", s.x.wait(0, -1), BAD);
        });
        holds("18: BEYOND by P", s -> {
            int f = s.stair(2, 1);
            int g = s.stair(31, 100);
            s.refused("wait(f, g)", s.x.wait(f, g), BEYOND);
        });
        holds("18: BEYOND is ahead of ENDLESS", s -> {
            int f = s.stair(2, 100);
            int g = s.stair(31, 1);
            s.refused("wait(f, g)", s.x.wait(f, g), BEYOND);
        });
        holds("18: ENDLESS: the RATE of f is above", s -> {
            int f = s.ray(2);
            int g = s.made(1, 1, TOP);
            s.refused("wait(f, g)", s.x.wait(f, g), ENDLESS);
        });
        holds("18: ENDLESS: g stays below f", s -> {
            int f = s.flat(1);
            int g = s.ray(0);
            s.refused("wait(f, g)", s.x.wait(f, g), ENDLESS);
            s.is("wait(g, g)", s.x.wait(g, g), 0);
        });
        holds("18: ENDLESS: it is 1000000001", s -> {
            int g = s.ray(1);
            s.is("wait", s.x.wait(s.flat(BILLION), g), BILLION);
            s.refused("wait", s.x.wait(s.flat(BILLION + 1L), g), ENDLESS);
        });
        holds("18: the longest of all t is told, not that of the first or last", s -> {
            int f = s.made(1, 1, 1, 2, 9, 9, 9, 9, 9, 9, 9, 9);
            s.is("wait", s.x.wait(f, s.ray(1)), 7);
        });
        holds("18: over a STAIR it is the whole STEP", s -> {
            int f = s.ray(1);
            int g = s.stair(60, 60);
            s.is("wait(f, g)", s.x.wait(f, g), 59);
            s.is("wait(g, f)", s.x.wait(g, f), 0);
        });
    }
}
