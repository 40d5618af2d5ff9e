import java.math.BigInteger;
import java.util.function.Consumer;

/** The edges that the document names in promises 1 to 10: a new object, and making. */
public final class EdgesOfMakingTest {
    private static final int BILLION = Sentence.BILLION;
    private static final long TOP = Sentence.TOP;
    private static final int BAD = Sentence.BAD, STATE = Sentence.STATE, FULL = Sentence.FULL;
    private static final int BEYOND = Sentence.BEYOND, ENDLESS = Sentence.ENDLESS;
    private static final int SUM = Sentence.SUM, OFF = Sentence.OFF;

    public static void main(String[] args) {
        aNewObject();
        put();
        drawBounds();
        draws();
        drop();
        curveBounds();
        curveStates();
        curveRow();
        ray();
        of();
        times();
        shift();
        undo();
        Sentence.end("EdgesOfMakingTest");
    }

    private static void holds(String words, Consumer<Sentence> test) {
        Sentence.holds(words, test);
    }

    private static void aNewObject() {
        holds("1: no CURVES", s -> {
            s.tells("count(0)", s.x.count(0), 0);
            s.no("at(0, 0)", s.x.at(0, 0), -1, BAD);
        });
        holds("1: an empty ROW", s -> {
            s.tells("count(1)", s.x.count(1), 0);
            s.is("drop()", s.x.drop(), 0);
            s.is("put(9)", s.x.put(9), 1);
        });
        holds("1: nothing COMES", s -> {
            s.tells("count(2)", s.x.count(2), 0);
            for (int t = 0; t <= 600; t += 60) {
                s.is("moved(0, " + t + ")", s.x.moved(0, t), 0);
            }
            s.is("stop()", s.x.stop(), 0);
        });
        holds("1: by no CURVE", s -> {
            s.tells("count(3)", s.x.count(3), -1);
            s.no("moved(1, 0)", s.x.moved(1, 0), -1, STATE);
            s.no("mostHeld()", s.x.mostHeld(), -1, STATE);
        });
        holds("1: nothing to undo", s -> {
            s.tells("count(4)", s.x.count(4), 0);
            s.refused("undo()", s.x.undo(), STATE);
        });
        holds("1: no call was refused", s -> s.tells("status()", s.x.status(), 0));
        holds("1: nothing was asked", s -> {
            for (int b = 0; b < 5; b++) {
                s.tells("trace(" + b + ")", s.x.trace(b), 0);
            }
        });
        holds("1: each object is one of its own", s -> {
            FlowCurves y = new FlowCurves();
            y.put(4);
            y.ray(7);
            y.serve(0);
            y.come(3);
            y.at(0, 1);
            y.ray(-1);
            s.counts(0, 0, 0, -1, 0);
            s.tells("trace(2)", s.x.trace(2), 0);
            s.tells("status()", s.x.status(), 0);
        });
    }

    private static void put() {
        holds("2: 0 is an AMOUNT", s -> s.is("put(0)", s.x.put(0), 1));
        holds("2: 1000000000000 is one", s -> s.is("put", s.x.put(TOP), 1));
        holds("2: -1 is BAD", s -> s.refused("put(-1)", s.x.put(-1), BAD));
        holds("2: 1000000000001 is BAD", s -> s.refused("put", s.x.put(TOP + 1), BAD));
        holds("2: the least and the greatest long are BAD", s -> {
            s.refused("put", s.x.put(Long.MIN_VALUE), BAD);
            s.refused("put", s.x.put(Long.MAX_VALUE), BAD);
            s.refused("put(2^32)", s.x.put(-4294967296L), BAD);
        });
        holds("2: behind THE ROW: the order stays", s -> {
            s.row(3, 5, 9);
            s.amounts(s.x.curve(1, 0), 3, 5, 9, 9);
        });
        holds("2: one below the last is taken, and one that is the same", s -> {
            s.is("put(5)", s.x.put(5), 1);
            s.is("put(5)", s.x.put(5), 2);
            s.is("put(4)", s.x.put(4), 3);
        });
        holds("2: how many it has, up to 300", s -> {
            for (int i = 1; i <= 300; i++) {
                s.tells("put(" + i + ")", s.x.put(i), i);
            }
        });
        holds("2: the 300th is taken", s -> {
            s.again(299);
            s.is("put(7)", s.x.put(7), 300);
        });
        holds("2: FULL: the 301st is not", s -> {
            s.again(300);
            s.refused("put(7)", s.x.put(7), FULL);
            s.tells("count(1)", s.x.count(1), 300);
        });
        holds("2: BAD is ahead of FULL", s -> {
            s.again(300);
            s.refused("put(-1)", s.x.put(-1), BAD);
            s.refused("put(TOP + 1)", s.x.put(TOP + 1), BAD);
        });
        holds("2: a refused one does not come", s -> {
            s.row(3, 5);
            s.x.put(-1);
            s.x.put(TOP + 1);
            s.tells("count(1)", s.x.count(1), 2);
            s.amounts(s.x.curve(1, 0), 3, 5, 5);
        });
    }

    private static void drawBounds() {
        holds("3: n 1 and 300", s -> {
            s.is("draw(1, 1, 1)", s.x.draw(1, 1, 1), 1);
            s.x.drop();
            s.is("draw(300, 1, 1)", s.x.draw(300, 1, 1), 300);
        });
        holds("3: n 0 is BAD", s -> s.refused("draw(0, 1, 1)", s.x.draw(0, 1, 1), BAD));
        holds("3: n 301 is BAD, not FULL", s -> s.refused("draw(301, 1, 1)", s.x.draw(301, 1, 1), BAD));
        holds("3: n far out of its bounds is BAD", s -> {
            s.refused("draw", s.x.draw(-1, 1, 1), BAD);
            s.refused("draw", s.x.draw(Integer.MIN_VALUE, 1, 1), BAD);
            s.refused("draw", s.x.draw(Integer.MAX_VALUE, 1, 1), BAD);
        });
        holds("3: most 0 and 1000000", s -> {
            s.is("draw(1, 1, 0)", s.x.draw(1, 1, 0), 1);
            s.is("draw(1, 1, 1000000)", s.x.draw(1, 1, 1000000), 2);
        });
        holds("3: most -1 is BAD", s -> s.refused("draw(1, 1, -1)", s.x.draw(1, 1, -1), BAD));
        holds("3: most 1000001 is BAD", s -> s.refused("draw", s.x.draw(1, 1, 1000001), BAD));
        holds("3: most far out of its bounds is BAD", s -> {
            s.refused("draw", s.x.draw(1, 1, Integer.MAX_VALUE), BAD);
            s.refused("draw", s.x.draw(1, 1, Integer.MIN_VALUE), BAD);
        });
        holds("3: FULL: not for all, and then none comes", s -> {
            s.again(298);
            s.refused("draw(3, 1, 1)", s.x.draw(3, 1, 1), FULL);
            s.tells("count(1)", s.x.count(1), 298);
            s.is("draw(2, 1, 1)", s.x.draw(2, 1, 1), 300);
        });
        holds("3: FULL: 300 behind one", s -> {
            s.row(1);
            s.refused("draw(300, 1, 1)", s.x.draw(300, 1, 1), FULL);
            s.is("draw(299, 1, 1)", s.x.draw(299, 1, 1), 300);
        });
        holds("3: FULL: one behind 300", s -> {
            s.again(300);
            s.refused("draw(1, 1, 1)", s.x.draw(1, 1, 1), FULL);
        });
        holds("3: BAD is ahead of FULL", s -> {
            s.again(300);
            s.refused("draw(0, 1, 1)", s.x.draw(0, 1, 1), BAD);
            s.refused("draw(301, 1, 1)", s.x.draw(301, 1, 1), BAD);
            s.refused("draw(1, 1, -1)", s.x.draw(1, 1, -1), BAD);
            s.refused("draw(1, 1, 1000001)", s.x.draw(1, 1, 1000001), BAD);
        });
        holds("3: it draws anew from z each time: the same z draws the same", s -> {
            s.x.draw(5, 77, 1000);
            int f = s.x.curve(1, 0);
            s.x.draw(5, 77, 1000);
            s.is("unlike", s.x.unlike(f, s.x.curve(1, 0)), -1);
        });
    }

    private static void draws() {
        holds("3: the last one of THE ROW is 0, if it is empty", s -> drawn(s, 0, 5, 9, 20));
        holds("3: the last one of THE ROW, if it is not", s -> {
            s.row(100);
            drawn(s, 100, 5, 9, 20);
        });
        holds("3: the last one, not the greatest", s -> {
            s.row(100, 40);
            s.x.draw(1, 0, 0);
            s.refused("curve(2, 60)", s.x.curve(2, 60), STATE);
            s.x.drop();
            s.row(40);
            drawn(s, 40, 3, 9, 3);
        });
        holds("3: modulo (most + 1): most 0 draws 0 alone", s -> drawn(s, 0, 99, 0, 12));
        holds("3: modulo (most + 1): most 1 draws 0 and 1", s -> drawn(s, 0, 99, 1, 40));
        holds("3: modulo (most + 1): most 1000000", s -> drawn(s, 0, 99, 1000000, 60));
        holds("3: z 0", s -> drawn(s, 0, 0, 999, 30));
        holds("3: z -1 wraps around modulo 2^31", s -> drawn(s, 0, -1, 1000000, 30));
        holds("3: z 2147483647 wraps around", s -> drawn(s, 0, Integer.MAX_VALUE, 1000000, 30));
        holds("3: z -2147483648 wraps around", s -> drawn(s, 0, Integer.MIN_VALUE, 1000000, 30));
        holds("3: each z of a long draw wraps around", s -> drawn(s, 0, 20261120, 1000000, 200));
        holds("3: behind 1000000000000 they go above it", s -> {
            s.row(TOP);
            drawn(s, TOP, 1, 1000000, 1);
        });
    }

    /** Draws behind a row that ends with 'last'; the curve is told from START 0 to the last one drawn. */
    private static void drawn(Sentence s, long last, int z, int most, int n) {
        int before = s.x.count(1);
        s.is("draw(" + n + ", " + z + ", " + most + ")", s.x.draw(n, z, most), before + n);
        if (last >= TOP) {
            s.refused("curve above", s.x.curve(1, 0), BEYOND);
            return;
        }
        int f = s.x.curve(1, 0);
        BigInteger at = BigInteger.valueOf(z);
        for (int i = 0; i < n; i++) {
            at = at.multiply(BigInteger.valueOf(1103515245L)).add(BigInteger.valueOf(12345L)).mod(BigInteger.ONE.shiftLeft(31));
            last += at.shiftRight(8).mod(BigInteger.valueOf(most + 1L)).longValue();
            s.tells("at(f, " + (before + i) + ")", s.x.at(f, before + i), last);
        }
    }

    private static void drop() {
        holds("4: of an empty ROW: 0", s -> s.is("drop()", s.x.drop(), 0));
        holds("4: of one: 1, then 0", s -> {
            s.row(5);
            s.is("drop()", s.x.drop(), 1);
            s.is("drop()", s.x.drop(), 0);
        });
        holds("4: of a full ROW: 300", s -> {
            s.again(300);
            s.is("drop()", s.x.drop(), 300);
            s.is("put(1)", s.x.put(1), 1);
        });
        holds("4: THE ROW is empty: the last one is 0 for draw", s -> {
            s.row(500);
            s.x.drop();
            drawn(s, 0, 1, 9, 4);
        });
        holds("4: nothing else", s -> {
            s.ray(2);
            s.x.serve(0);
            s.come(5);
            s.row(4, 5);
            s.x.drop();
            s.counts(1, 0, 1, 0, 1);
        });
    }

    private static void curveBounds() {
        holds("5: step 1", s -> s.amounts(s.made(1, 4, 3, 8), 3, 8, 12, 16));
        holds("5: step 60", s -> {
            s.again(59);
            s.x.put(5);
            s.terms(s.x.curve(60, 8), 0, 60, 8);
        });
        holds("5: step 0 is BAD", s -> {
            s.row(1);
            s.refused("curve(0, 0)", s.x.curve(0, 0), BAD);
        });
        holds("5: step 61 is BAD", s -> {
            s.again(100);
            s.refused("curve(61, 0)", s.x.curve(61, 0), BAD);
        });
        holds("5: step far out of its bounds is BAD", s -> {
            s.row(1);
            s.refused("curve(-1, 0)", s.x.curve(-1, 0), BAD);
            s.refused("curve", s.x.curve(Integer.MIN_VALUE, 0), BAD);
            s.refused("curve", s.x.curve(Integer.MAX_VALUE, 0), BAD);
        });
        holds("5: gain 0", s -> s.amounts(s.made(1, 0, 3), 3, 3, 3));
        holds("5: gain 1000000000", s -> s.amounts(s.made(1, BILLION, 3), 3, BILLION + 3, 2L * BILLION + 3));
        holds("5: gain -1 is BAD", s -> {
            s.row(1);
            s.refused("curve(1, -1)", s.x.curve(1, -1), BAD);
        });
        holds("5: gain 1000000001 is BAD", s -> {
            s.row(1);
            s.refused("curve", s.x.curve(1, BILLION + 1), BAD);
            s.refused("curve", s.x.curve(1, Integer.MAX_VALUE), BAD);
            s.refused("curve", s.x.curve(1, Integer.MIN_VALUE), BAD);
        });
        holds("5: the last step AMOUNTS come round, those before do not", s -> {
            s.amounts(s.made(2, 5, 0, 7, 7, 9), 0, 7, 7, 9, 12, 14, 17, 19);
        });
        holds("5: from behind THE ROW on: f(n) is the row's amount a step before and the gain", s -> {
            s.amounts(s.made(3, 9, 1, 2, 3), 1, 2, 3, 10, 11, 12, 19);
        });
    }

    private static void curveStates() {
        holds("5: STATE: THE ROW is empty", s -> s.refused("curve(1, 0)", s.x.curve(1, 0), STATE));
        holds("5: STATE: THE ROW has one less than step", s -> {
            s.again(59);
            s.refused("curve(60, 0)", s.x.curve(60, 0), STATE);
            s.x.put(0);
            s.is("curve(60, 0)", s.x.curve(60, 0), 0);
        });
        holds("5: THE ROW has just step", s -> s.is("made", s.made(3, 5, 0, 1, 2), 0));
        holds("5: STATE: it falls at once", s -> {
            s.row(1, 0, 5, 5);
            s.refused("curve(1, 5)", s.x.curve(1, 5), STATE);
        });
        holds("5: STATE: it falls in its midst", s -> {
            s.row(1, 4, 3, 5);
            s.refused("curve(1, 5)", s.x.curve(1, 5), STATE);
        });
        holds("5: STATE: it falls at the last", s -> {
            s.row(1, 4, 5, 4);
            s.refused("curve(1, 5)", s.x.curve(1, 5), STATE);
        });
        holds("5: STATE: it would fall by 1 where it comes round", s -> {
            s.row(1, 4, 6);
            s.refused("curve(2, 1)", s.x.curve(2, 1), STATE);
            s.is("curve(2, 2)", s.x.curve(2, 2), 0);
            s.amounts(0, 1, 4, 6, 6, 8, 8);
        });
        holds("5: it comes round from the amount a step before, not from the first", s -> {
            s.row(0, 4, 6);
            s.refused("curve(2, 0)", s.x.curve(2, 0), STATE);
            s.is("curve(1, 0)", s.x.curve(1, 0), 0);
        });
        holds("5: BAD is ahead of STATE", s -> {
            s.refused("curve(0, 0) of none", s.x.curve(0, 0), BAD);
            s.refused("curve(61, 0) of none", s.x.curve(61, 0), BAD);
            s.refused("curve(1, -1) of none", s.x.curve(1, -1), BAD);
            s.refused("curve(1, 1000000001) of none", s.x.curve(1, BILLION + 1), BAD);
        });
        holds("5: BAD is ahead of FULL", s -> {
            s.curvesUpTo(60);
            s.row(1);
            s.refused("curve(0, 0)", s.x.curve(0, 0), BAD);
            s.refused("curve(1, -1)", s.x.curve(1, -1), BAD);
        });
        holds("5: STATE is ahead of FULL", s -> {
            s.curvesUpTo(60);
            s.refused("curve(1, 0) of none", s.x.curve(1, 0), STATE);
            s.row(2, 1);
            s.refused("curve(1, 5), falls", s.x.curve(1, 5), STATE);
        });
        holds("5: STATE is ahead of BEYOND", s -> {
            s.again(210);
            s.row(9, 8);
            s.refused("curve(1, 5), falls, T 211", s.x.curve(1, 5), STATE);
        });
        holds("5: FULL is ahead of BEYOND", s -> {
            s.curvesUpTo(60);
            s.again(210);
            s.row(9);
            s.refused("curve(1, 5), T 210", s.x.curve(1, 5), FULL);
            s.x.undo();
            s.refused("curve(1, 5), T 210", s.x.curve(1, 5), BEYOND);
        });
        holds("5: the 60th CURVE, FULL at the 61st", s -> {
            s.curvesUpTo(59);
            s.row(9);
            s.is("curve(1, 5)", s.x.curve(1, 5), 59);
            s.row(9);
            s.refused("curve(1, 5)", s.x.curve(1, 5), FULL);
        });
    }

    private static void curveRow() {
        holds("5: THE ROW is empty then", s -> {
            s.made(1, 1, 4, 5);
            s.tells("count(1)", s.x.count(1), 0);
            s.refused("curve(1, 1)", s.x.curve(1, 1), STATE);
            s.is("put(3)", s.x.put(3), 1);
        });
        holds("5: THE ROW stays, if it is refused: BAD, STATE", s -> {
            s.row(4, 5);
            s.x.curve(0, 0);
            s.x.curve(3, 0);
            s.tells("count(1)", s.x.count(1), 2);
            s.amounts(s.x.curve(1, 0), 4, 5, 5);
        });
        holds("5: THE ROW stays, if it is refused: FULL", s -> {
            s.curvesUpTo(60);
            s.row(4, 5);
            s.x.curve(1, 0);
            s.tells("count(1)", s.x.count(1), 2);
            s.x.undo();
            s.amounts(s.x.curve(1, 0), 4, 5, 5);
        });
        holds("5: THE ROW stays, if it is refused: BEYOND", s -> {
            s.again(201);
            s.x.put(1);
            s.x.curve(1, 0);
            s.tells("count(1)", s.x.count(1), 202);
            s.tells("count(0)", s.x.count(0), 0);
            s.tells("count(4)", s.x.count(4), 0);
        });
        holds("5: a row of 300 whose T is 200, STEP 50", s -> {
            s.again(200);
            s.x.put(3);
            s.again(48);
            s.x.put(9);
            s.x.put(13);
            s.again(48);
            s.is("put(19)", s.x.put(19), 300);
            int f = s.x.curve(50, 10);
            s.terms(f, 200, 50, 10);
            s.is("at(f, 349)", s.x.at(f, 349), 29);
        });
        holds("5: a row of 300 whose T is 201 is BEYOND", s -> {
            s.again(201);
            s.x.put(3);
            s.again(47);
            s.x.put(9);
            s.x.put(11);
            s.x.put(13);
            s.again(47);
            s.is("put(19)", s.x.put(19), 300);
            s.refused("curve(50, 10)", s.x.curve(50, 10), BEYOND);
        });
    }

    private static void ray() {
        holds("6: c 0", s -> s.amounts(s.ray(0), 0, 0, 0));
        holds("6: c 1000000000", s -> s.amounts(s.ray(BILLION), 0, BILLION, 2L * BILLION));
        holds("6: c -1 is BAD", s -> s.refused("ray(-1)", s.x.ray(-1), BAD));
        holds("6: c 1000000001 is BAD", s -> s.refused("ray", s.x.ray(BILLION + 1), BAD));
        holds("6: c far out of its bounds is BAD", s -> {
            s.refused("ray", s.x.ray(Integer.MIN_VALUE), BAD);
            s.refused("ray", s.x.ray(Integer.MAX_VALUE), BAD);
        });
        holds("6: FULL at the 61st", s -> {
            s.curvesUpTo(60);
            s.refused("ray(1)", s.x.ray(1), FULL);
        });
        holds("6: BAD is ahead of FULL", s -> {
            s.curvesUpTo(60);
            s.refused("ray(-1)", s.x.ray(-1), BAD);
            s.refused("ray(1000000001)", s.x.ray(BILLION + 1), BAD);
        });
        holds("6: THE ROW stays", s -> {
            s.row(4, 5);
            s.x.ray(1);
            s.tells("count(1)", s.x.count(1), 2);
            s.amounts(s.x.curve(1, 0), 4, 5, 5);
        });
    }

    private static void of() {
        holds("7: way 0 and 5", s -> {
            s.ray(1);
            s.is("of(0, 0, 0)", s.x.of(0, 0, 0), 1);
            s.is("of(5, 0, 0)", s.x.of(5, 0, 0), 2);
        });
        holds("7: each way is its own", s -> {
            int f = s.burst(9, 2);
            int g = s.late(3, 4);
            long[][] wanted = {{0, 9, 11, 13, 19, 25}, {0, 0, 0, 0, 4, 8}, {0, 9, 11, 13, 15, 17},
                {0, 9, 11, 13, 13, 13}, {0, 0, 0, 0, 4, 8}, {13, 15, 17, 19, 21, 23}};
            for (int way = SUM; way <= OFF; way++) {
                s.amounts(s.of(way, f, g), wanted[way]);
            }
        });
        holds("7: way -1 is BAD", s -> {
            s.ray(1);
            s.refused("of(-1, 0, 0)", s.x.of(-1, 0, 0), BAD);
            s.refused("of", s.x.of(Integer.MIN_VALUE, 0, 0), BAD);
        });
        holds("7: way 6 is BAD", s -> {
            s.ray(1);
            s.refused("of(6, 0, 0)", s.x.of(6, 0, 0), BAD);
            s.refused("of", s.x.of(Integer.MAX_VALUE, 0, 0), BAD);
        });
        holds("7: no such f is BAD", s -> {
            s.ray(1);
            s.refused("of(0, 1, 0)", s.x.of(0, 1, 0), BAD);
            s.refused("of(0, -1, 0)", s.x.of(0, -1, 0), BAD);
            s.refused("of", s.x.of(0, Integer.MAX_VALUE, 0), BAD);
        });
        holds("7: no such g is BAD", s -> {
            s.ray(1);
            s.refused("of(0, 0, 1)", s.x.of(0, 0, 1), BAD);
            s.refused("of(0, 0, -1)", s.x.of(0, 0, -1), BAD);
            s.refused("of", s.x.of(0, 0, Integer.MIN_VALUE), BAD);
        });
        holds("7: the 60th CURVE, FULL at the 61st, each way", s -> {
            s.curvesUpTo(59);
            s.is("of(0, 1, 2)", s.x.of(0, 1, 2), 59);
            for (int way = SUM; way <= OFF; way++) {
                s.refused("of(" + way + ", 1, 2)", s.x.of(way, 1, 2), FULL);
            }
        });
        holds("7: BAD is ahead of FULL", s -> {
            s.curvesUpTo(60);
            s.refused("of(6, 0, 0)", s.x.of(6, 0, 0), BAD);
            s.refused("of(0, 60, 0)", s.x.of(0, 60, 0), BAD);
            s.refused("of(0, 0, 60)", s.x.of(0, 0, 60), BAD);
        });
        holds("7: BAD is ahead of BEYOND by P", s -> {
            int f = s.stair(7, 1);
            int g = s.stair(9, 1);
            s.refused("of(6, f, g)", s.x.of(6, f, g), BAD);
        });
        holds("7: FULL is ahead of BEYOND by P", s -> {
            int f = s.stair(7, 1);
            int g = s.stair(9, 1);
            s.curvesUpTo(60);
            for (int way = SUM; way <= OFF; way++) {
                s.refused("of(" + way + ", f, g)", s.x.of(way, f, g), FULL);
            }
            s.x.undo();
            s.refused("of(0, f, g)", s.x.of(0, f, g), BEYOND);
        });
        holds("7: FULL is ahead of ENDLESS", s -> {
            s.curvesUpTo(60);
            s.refused("of(5, 2, 1)", s.x.of(5, 2, 1), FULL);
            s.x.undo();
            s.refused("of(5, 2, 1)", s.x.of(5, 2, 1), ENDLESS);
        });
        holds("7: FULL is ahead of the other BEYOND", s -> {
            int f = s.ray(BILLION);
            s.curvesUpTo(60);
            s.refused("of(0, f, f)", s.x.of(0, f, f), FULL);
            s.x.undo();
            s.refused("of(0, f, f)", s.x.of(0, f, f), BEYOND);
        });
        holds("7: ENDLESS is ahead of BEYOND but that of P", s -> {
            int f = s.ray(2);
            int g = s.made(1, 1, 500);
            s.refused("OFF, ENDLESS", s.x.of(OFF, f, g), ENDLESS);
            int p = s.stair(31, 100);
            int q = s.stair(2, 1);
            s.refused("OFF, BEYOND by P", s.x.of(OFF, p, q), BEYOND);
        });
        holds("7: ENDLESS is of OFF alone", s -> {
            int f = s.ray(2);
            int g = s.ray(1);
            for (int way = SUM; way < OFF; way++) {
                s.of(way, f, g);
            }
        });
        holds("7: a refused one does not come", s -> {
            int f = s.ray(BILLION);
            s.x.of(SUM, f, f);
            s.x.of(OFF, f, 9);
            s.counts(1, 0, 0, -1, 1);
        });
        holds("7: THE ROW stays", s -> {
            s.ray(1);
            s.row(4, 5);
            s.x.of(SUM, 0, 0);
            s.amounts(s.x.curve(1, 0), 4, 5, 5);
        });
    }

    private static void times() {
        holds("8: n 0, 1 and 1000", s -> {
            int f = s.made(2, 3, 1, 2);
            s.amounts(s.x.times(f, 0), 0, 0, 0);
            s.amounts(s.x.times(f, 1), 1, 2, 4, 5);
            s.amounts(s.x.times(f, 1000), 1000, 2000, 4000, 5000);
        });
        holds("8: n -1 is BAD", s -> {
            s.ray(1);
            s.refused("times(0, -1)", s.x.times(0, -1), BAD);
        });
        holds("8: n 1001 is BAD", s -> {
            s.ray(1);
            s.refused("times(0, 1001)", s.x.times(0, 1001), BAD);
        });
        holds("8: n far out of its bounds is BAD", s -> {
            s.ray(1);
            s.refused("times", s.x.times(0, Integer.MIN_VALUE), BAD);
            s.refused("times", s.x.times(0, Integer.MAX_VALUE), BAD);
        });
        holds("8: no such CURVE is BAD", s -> {
            s.ray(1);
            s.refused("times(1, 1)", s.x.times(1, 1), BAD);
            s.refused("times(-1, 1)", s.x.times(-1, 1), BAD);
        });
        holds("8: the 60th CURVE, FULL at the 61st", s -> {
            s.curvesUpTo(59);
            s.is("times(1, 2)", s.x.times(1, 2), 59);
            s.refused("times(1, 2)", s.x.times(1, 2), FULL);
        });
        holds("8: BAD is ahead of FULL", s -> {
            s.curvesUpTo(60);
            s.refused("times(1, -1)", s.x.times(1, -1), BAD);
            s.refused("times(1, 1001)", s.x.times(1, 1001), BAD);
            s.refused("times(60, 1)", s.x.times(60, 1), BAD);
        });
        holds("8: FULL is ahead of BEYOND", s -> {
            int f = s.ray(BILLION);
            s.curvesUpTo(60);
            s.refused("times(f, 2)", s.x.times(f, 2), FULL);
            s.x.undo();
            s.refused("times(f, 2)", s.x.times(f, 2), BEYOND);
        });
        holds("8: a refused one does not come", s -> {
            int f = s.ray(BILLION);
            s.x.times(f, 2);
            s.counts(1, 0, 0, -1, 1);
        });
        holds("8: it can come round sooner: n 0 of T 200, d 60", s -> {
            s.again(259);
            s.x.put(7);
            int f = s.x.curve(60, 7);
            s.terms(f, 199, 60, 7);
            s.terms(s.x.times(f, 0), 0, 1, 0);
            s.terms(s.x.times(f, 3), 199, 60, 21);
        });
        holds("8: greatest AMOUNTS and n", s -> {
            int f = s.made(1, BILLION, TOP);
            s.refused("times(f, 1000)", s.x.times(f, 1000), BEYOND);
            s.is("times(f, 1)", s.x.times(f, 1), 1);
        });
    }

    private static void shift() {
        holds("9: n 0 and 1", s -> {
            int f = s.made(2, 3, 1, 2);
            s.amounts(s.x.shift(f, 0), 1, 2, 4, 5);
            s.amounts(s.x.shift(f, 1), 0, 1, 2, 4, 5);
        });
        holds("9: n 200", s -> {
            int f = s.ray(5);
            int g = s.x.shift(f, 200);
            s.terms(g, 200, 1, 5);
            s.is("at(g, 200)", s.x.at(g, 200), 0);
            s.is("at(g, 201)", s.x.at(g, 201), 5);
        });
        holds("9: n 200 of f(0) above 0: 0 at 199, f(0) at 200", s -> {
            int f = s.flat(5);
            int g = s.x.shift(f, 200);
            s.terms(g, 200, 1, 0);
            s.is("at(g, 199)", s.x.at(g, 199), 0);
            s.is("at(g, 200)", s.x.at(g, 200), 5);
        });
        holds("9: n -1 is BAD", s -> {
            s.ray(1);
            s.refused("shift(0, -1)", s.x.shift(0, -1), BAD);
        });
        holds("9: n 201 is BAD", s -> {
            s.ray(0);
            s.refused("shift(0, 201)", s.x.shift(0, 201), BAD);
        });
        holds("9: n far out of its bounds is BAD", s -> {
            s.ray(1);
            s.refused("shift", s.x.shift(0, Integer.MIN_VALUE), BAD);
            s.refused("shift", s.x.shift(0, Integer.MAX_VALUE), BAD);
        });
        holds("9: no such CURVE is BAD", s -> {
            s.ray(1);
            s.refused("shift(1, 1)", s.x.shift(1, 1), BAD);
            s.refused("shift(-1, 1)", s.x.shift(-1, 1), BAD);
        });
        holds("9: the 60th CURVE, FULL at the 61st", s -> {
            s.curvesUpTo(59);
            s.is("shift(1, 2)", s.x.shift(1, 2), 59);
            s.refused("shift(1, 2)", s.x.shift(1, 2), FULL);
        });
        holds("9: BAD is ahead of FULL", s -> {
            s.curvesUpTo(60);
            s.refused("shift(1, -1)", s.x.shift(1, -1), BAD);
            s.refused("shift(1, 201)", s.x.shift(1, 201), BAD);
            s.refused("shift(60, 1)", s.x.shift(60, 1), BAD);
        });
        holds("9: FULL is ahead of BEYOND", s -> {
            int f = s.late(1, 1);
            s.curvesUpTo(60);
            s.refused("shift(f, 200)", s.x.shift(f, 200), FULL);
            s.x.undo();
            s.refused("shift(f, 200)", s.x.shift(f, 200), BEYOND);
        });
        holds("9: a refused one does not come", s -> {
            int f = s.late(1, 1);
            s.x.shift(f, 200);
            s.counts(1, 0, 0, -1, 1);
        });
        holds("9: n 200 of T 200 is BEYOND, n 0 is not", s -> {
            int f = s.late(200, 1);
            s.refused("shift(f, 200)", s.x.shift(f, 200), BEYOND);
            s.refused("shift(f, 1)", s.x.shift(f, 1), BEYOND);
            s.is("shift(f, 0)", s.x.shift(f, 0), 1);
        });
        holds("9: n 200 of T 199 and d 60 is BEYOND", s -> {
            s.again(259);
            s.x.put(7);
            int f = s.x.curve(60, 7);
            s.refused("shift(f, 200)", s.x.shift(f, 200), BEYOND);
            s.refused("shift(f, 2)", s.x.shift(f, 2), BEYOND);
            s.terms(s.x.shift(f, 1), 200, 60, 7);
        });
        holds("9: 0 for ever SHIFTED by 200 has T 0", s -> {
            int f = s.ray(0);
            s.terms(s.x.shift(f, 200), 0, 1, 0);
        });
    }

    private static void undo() {
        holds("10: STATE: there is nothing to undo", s -> s.refused("undo()", s.x.undo(), STATE));
        holds("10: STATE: there is nothing more to undo", s -> {
            s.curvesUpTo(3);
            s.is("undo()", s.x.undo(), 2);
            s.refused("undo()", s.x.undo(), STATE);
            s.tells("count(0)", s.x.count(0), 2);
        });
        holds("10: the last one: 0 are left", s -> {
            s.ray(1);
            s.is("undo()", s.x.undo(), 0);
            s.no("at(0, 0)", s.x.at(0, 0), -1, BAD);
            s.refused("undo()", s.x.undo(), STATE);
        });
        holds("10: the 60th: 59 are left", s -> {
            s.curvesUpTo(60);
            s.is("undo()", s.x.undo(), 59);
            s.no("at(59, 0)", s.x.at(59, 0), -1, BAD);
            s.is("ray(7)", s.x.ray(7), 59);
            s.is("at(59, 1)", s.x.at(59, 1), 7);
        });
        holds("10: once behind each that came: curve, ray, of, times, shift", s -> {
            s.ray(1);
            s.row(4);
            s.is("curve", s.x.curve(1, 1), 1);
            s.is("undo()", s.x.undo(), 1);
            s.is("ray", s.x.ray(2), 1);
            s.is("undo()", s.x.undo(), 1);
            for (int way = SUM; way <= OFF; way++) {
                s.is("of", s.x.of(way, 0, 0), 1);
                s.is("undo()", s.x.undo(), 1);
            }
            s.is("times", s.x.times(0, 2), 1);
            s.is("undo()", s.x.undo(), 1);
            s.is("shift", s.x.shift(0, 2), 1);
            s.is("undo()", s.x.undo(), 1);
            s.refused("undo()", s.x.undo(), STATE);
        });
        holds("10: two that came are not undone twice", s -> {
            s.ray(1);
            s.ray(2);
            s.is("undo()", s.x.undo(), 1);
            s.refused("undo()", s.x.undo(), STATE);
            s.is("at(0, 1)", s.x.at(0, 1), 1);
        });
        holds("10: the CURVE that came last goes, no other", s -> {
            s.ray(1);
            s.ray(2);
            s.ray(3);
            s.x.undo();
            s.is("at(1, 1)", s.x.at(1, 1), 2);
            s.no("at(2, 1)", s.x.at(2, 1), -1, BAD);
        });
        holds("10: its number is given again", s -> {
            s.ray(1);
            s.ray(2);
            s.x.undo();
            s.is("ray(9)", s.x.ray(9), 1);
            s.is("at(1, 1)", s.x.at(1, 1), 9);
        });
        holds("10: SERVED by it, it is by none then", s -> {
            s.ray(1);
            s.ray(2);
            s.come(5);
            s.x.serve(1);
            s.x.undo();
            s.counts(1, 0, 1, -1, 0);
            s.no("moved(1, 1)", s.x.moved(1, 1), -1, STATE);
            s.ray(3);
            s.tells("count(3) with a new CURVE of its number", s.x.count(3), -1);
        });
        holds("10: SERVED by the only one, number 0", s -> {
            s.ray(1);
            s.x.serve(0);
            s.x.undo();
            s.tells("count(3)", s.x.count(3), -1);
            s.refused("mostLate()", s.x.mostLate(), STATE);
        });
        holds("10: SERVED by another, it stays", s -> {
            s.ray(1);
            s.ray(2);
            s.x.serve(0);
            s.x.undo();
            s.tells("count(3)", s.x.count(3), 0);
            s.is("moved(1, 0)", s.x.moved(1, 0), 0);
        });
        holds("10: a refused making does not make it be again", s -> {
            s.ray(1);
            s.ray(2);
            s.x.undo();
            s.x.ray(-1);
            s.x.of(9, 0, 0);
            s.x.times(0, -1);
            s.x.shift(0, -1);
            s.x.curve(1, 1);
            s.tells("count(4)", s.x.count(4), 0);
            s.refused("undo()", s.x.undo(), STATE);
        });
        holds("10: a refused making does not take it away", s -> {
            s.ray(1);
            s.x.ray(-1);
            s.x.of(9, 0, 0);
            s.tells("count(4)", s.x.count(4), 1);
            s.is("undo()", s.x.undo(), 0);
        });
        holds("10: other calls between do not take it away", s -> {
            s.ray(1);
            s.row(4);
            s.x.drop();
            s.come(5);
            s.x.serve(0);
            s.x.at(0, 5);
            s.x.stop();
            s.is("undo()", s.x.undo(), 0);
        });
        holds("10: THE ROW from which a CURVE came does not come back", s -> {
            s.made(1, 1, 4, 5);
            s.x.undo();
            s.tells("count(1)", s.x.count(1), 0);
        });
        holds("10: THE ROW and the run stay", s -> {
            s.ray(1);
            s.row(4, 5);
            s.come(8);
            s.x.undo();
            s.counts(0, 2, 1, -1, 0);
            s.is("moved(0, 1)", s.x.moved(0, 1), 8);
            s.amounts(s.x.curve(1, 0), 4, 5, 5);
        });
        holds("10: behind clear() there is nothing to undo", s -> {
            s.ray(1);
            s.x.clear();
            s.refused("undo()", s.x.undo(), STATE);
        });
    }
}
