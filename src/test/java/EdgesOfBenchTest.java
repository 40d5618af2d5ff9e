import java.util.function.Consumer;

/** The edges that the document names in TRACE, in status() and in promises 28 to 31. */
public final class EdgesOfBenchTest {
    private static final int BILLION = Sentence.BILLION;
    private static final int BAD = Sentence.BAD, STATE = Sentence.STATE, FULL = Sentence.FULL;
    private static final int BEYOND = Sentence.BEYOND, ENDLESS = Sentence.ENDLESS;
    private static final int SUM = Sentence.SUM, BOTH = Sentence.BOTH, OFF = Sentence.OFF;

    public static void main(String[] args) {
        constants();
        count();
        countWhat();
        traceOfBodies();
        traceOfOthers();
        statusOfReasons();
        statusOfTelling();
        statusBehindMaking();
        statusBehindTold();
        statusBehindRun();
        clear();
        manyCalls();
        Sentence.end("EdgesOfBenchTest");
    }

    private static void holds(String words, Consumer<Sentence> test) {
        Sentence.holds(words, test);
    }

    private static void constants() {
        holds("BAD -1, STATE -2, FULL -3, BEYOND -4, ENDLESS -5", s -> {
            s.tells("BAD", FlowCurves.BAD, -1);
            s.tells("STATE", FlowCurves.STATE, -2);
            s.tells("FULL", FlowCurves.FULL, -3);
            s.tells("BEYOND", FlowCurves.BEYOND, -4);
            s.tells("ENDLESS", FlowCurves.ENDLESS, -5);
        });
    }

    private static void count() {
        holds("28: 0 CURVES, 0 to 60", s -> {
            s.tells("count(0)", s.x.count(0), 0);
            for (int n = 1; n <= 60; n++) {
                s.x.ray(n);
                s.tells("count(0)", s.x.count(0), n);
            }
            s.x.ray(1);
            s.tells("count(0), refused", s.x.count(0), 60);
            s.x.undo();
            s.tells("count(0), undone", s.x.count(0), 59);
        });
        holds("28: 1 AMOUNTS in THE ROW, 0 to 300", s -> {
            s.tells("count(1)", s.x.count(1), 0);
            s.x.put(5);
            s.tells("count(1)", s.x.count(1), 1);
            s.x.draw(299, 1, 1);
            s.tells("count(1)", s.x.count(1), 300);
            s.x.put(5);
            s.tells("count(1), refused", s.x.count(1), 300);
            s.x.drop();
            s.tells("count(1), dropped", s.x.count(1), 0);
        });
        holds("28: 2 STEPS that came, 0 to 60", s -> {
            s.tells("count(2)", s.x.count(2), 0);
            for (int n = 1; n <= 60; n++) {
                s.x.come(n);
                s.tells("count(2)", s.x.count(2), n);
            }
            s.x.come(1);
            s.tells("count(2), refused", s.x.count(2), 60);
            s.x.stop();
            s.tells("count(2), stopped", s.x.count(2), 0);
        });
        holds("28: 3 the CURVE by which it is SERVED; -1: none", s -> {
            s.curvesUpTo(60);
            s.tells("count(3)", s.x.count(3), -1);
            s.x.serve(0);
            s.tells("count(3)", s.x.count(3), 0);
            s.x.serve(59);
            s.tells("count(3)", s.x.count(3), 59);
            s.x.undo();
            s.tells("count(3), undone", s.x.count(3), -1);
        });
        holds("28: 4 whether undo() may be", s -> {
            s.tells("count(4)", s.x.count(4), 0);
            s.ray(1);
            s.tells("count(4)", s.x.count(4), 1);
            s.x.undo();
            s.tells("count(4), undone", s.x.count(4), 0);
            s.ray(1);
            s.tells("count(4), made again", s.x.count(4), 1);
        });
        holds("28: 4 is what undo() does", s -> {
            s.ray(1);
            s.ray(2);
            for (int i = 0; i < 3; i++) {
                int may = s.x.count(4);
                s.tells("undo() is not refused", s.x.undo() >= 0 ? 1 : 0, may);
            }
        });
    }

    private static void countWhat() {
        holds("28: what -1 is BAD", s -> {
            s.tells("count(-1)", s.x.count(-1), BAD);
            s.tells("count", s.x.count(Integer.MIN_VALUE), BAD);
        });
        holds("28: what 5 is BAD", s -> {
            s.tells("count(5)", s.x.count(5), BAD);
            s.tells("count", s.x.count(Integer.MAX_VALUE), BAD);
        });
        holds("28: it changes nothing", s -> {
            s.ray(1);
            s.row(4, 5);
            s.come(6);
            s.x.serve(0);
            for (int what = -2; what < 8; what++) {
                s.x.count(what);
            }
            s.counts(1, 2, 1, 0, 1);
        });
    }

    private static void traced(Sentence s, int... wanted) {
        for (int b = 0; b < wanted.length; b++) {
            s.tells("trace(" + b + ")", s.x.trace(b), wanted[b]);
        }
    }

    private static void traceOfBodies() {
        holds("29: 0 CURVE's own", s -> {
            int f = s.flat(4);
            s.x.at(f, 0);
            s.x.at(f, BILLION);
            traced(s, 2, 0, 0, 0, 0);
        });
        holds("29: 1 BURST's, which asks RAY's once each time, too", s -> {
            int f = s.burst(9, 2);
            s.x.at(f, 5);
            s.x.at(f, BILLION);
            traced(s, 0, 2, 2, 0, 0);
        });
        holds("29: BURST's asks RAY's at 0 and at 1, too", s -> {
            int f = s.burst(9, 2);
            s.x.at(f, 0);
            traced(s, 0, 1, 1, 0, 0);
            s.x.at(f, 1);
            traced(s, 0, 2, 2, 0, 0);
        });
        holds("29: 2 RAY's, of RAY 0 too", s -> {
            s.x.at(s.ray(5), 0);
            s.x.at(s.ray(0), 7);
            traced(s, 0, 0, 2, 0, 0);
        });
        holds("29: 3 LATE's, up to L and behind it", s -> {
            int f = s.late(3, 2);
            s.x.at(f, 0);
            s.x.at(f, 3);
            s.x.at(f, 4);
            traced(s, 0, 0, 0, 3, 0);
        });
        holds("29: 4 STAIR's", s -> {
            int f = s.stair(3, 2);
            s.x.at(f, 0);
            s.x.at(f, 3);
            s.x.at(f, 4);
            s.x.at(f, 100);
            traced(s, 0, 0, 0, 0, 4);
        });
        holds("29: 0 of all in a new object", s -> traced(s, 0, 0, 0, 0, 0));
        holds("29: b -1 is BAD", s -> {
            s.tells("trace(-1)", s.x.trace(-1), BAD);
            s.tells("trace", s.x.trace(Integer.MIN_VALUE), BAD);
        });
        holds("29: b 5 is BAD", s -> {
            s.tells("trace(5)", s.x.trace(5), BAD);
            s.tells("trace", s.x.trace(Integer.MAX_VALUE), BAD);
        });
    }

    private static void traceOfOthers() {
        holds("29: a refused at() asks no body", s -> {
            int f = s.flat(4);
            s.x.at(f, -1);
            s.x.at(f, BILLION + 1);
            s.x.at(9, 0);
            s.x.at(-1, 0);
            traced(s, 0, 0, 0, 0, 0);
        });
        holds("29: through at() alone: not by making", s -> {
            int f = s.burst(9, 2);
            int g = s.stair(2, 5);
            for (int way = SUM; way <= OFF; way++) {
                s.x.of(way, f, g);
            }
            s.x.times(f, 2);
            s.x.shift(g, 2);
            s.x.undo();
            traced(s, 0, 0, 0, 0, 0);
        });
        holds("29: through at() alone: not by what is told of curves", s -> {
            int f = s.late(2, 2);
            int g = s.burst(9, 3);
            for (int what = 0; what < 5; what++) {
                s.x.about(f, what);
                s.x.about(g, what);
            }
            s.x.rate(f, 0);
            s.x.unlike(f, g);
            s.x.below(f, g);
            s.x.first(f, 100);
            s.x.heap(f, g);
            s.x.wait(f, g);
            traced(s, 0, 0, 0, 0, 0);
        });
        holds("29: through at() alone: not by a run", s -> {
            int f = s.ray(3);
            s.x.hardest(f, 5);
            s.x.serve(f);
            s.x.moved(1, 4);
            s.x.moved(2, 4);
            s.x.late(3);
            s.x.mostHeld();
            s.x.mostLate();
            s.x.keeps(f);
            traced(s, 0, 0, 0, 0, 0);
        });
        holds("29: since the beginning: through undo() and clear()", s -> {
            s.x.at(s.ray(3), 1);
            s.x.undo();
            traced(s, 0, 0, 1, 0, 0);
            s.x.clear();
            traced(s, 0, 0, 1, 0, 0);
            s.x.at(s.flat(3), 1);
            traced(s, 1, 0, 1, 0, 0);
        });
        holds("29: by the KIND that it is, however it was made", s -> {
            s.x.at(s.made(1, 2, 0, 2, 4, 6), 1);
            traced(s, 0, 0, 1, 0, 0);
            s.x.at(s.x.times(0, 0), 1);
            traced(s, 0, 0, 2, 0, 0);
            s.x.at(s.x.shift(0, 4), 1);
            traced(s, 0, 0, 2, 1, 0);
        });
    }

    private static void statusOfReasons() {
        holds("30: 0 in a new object", s -> s.tells("status()", s.x.status(), 0));
        holds("30: BAD is -1", s -> {
            s.x.ray(-1);
            s.tells("status()", s.x.status(), -1);
        });
        holds("30: STATE is -2", s -> {
            s.x.undo();
            s.tells("status()", s.x.status(), -2);
        });
        holds("30: FULL is -3", s -> {
            s.stepsUpTo(60);
            s.x.come(1);
            s.tells("status()", s.x.status(), -3);
        });
        holds("30: BEYOND is -4", s -> {
            int f = s.ray(BILLION);
            s.x.of(SUM, f, f);
            s.tells("status()", s.x.status(), -4);
        });
        holds("30: ENDLESS is -5", s -> {
            int f = s.ray(2);
            s.x.first(f, Long.MAX_VALUE);
            s.tells("status()", s.x.status(), -5);
        });
        holds("30: the latest call alone", s -> {
            s.x.ray(-1);
            s.x.undo();
            s.tells("status()", s.x.status(), STATE);
            s.x.ray(1);
            s.tells("status()", s.x.status(), 0);
            s.x.ray(-1);
            s.tells("status()", s.x.status(), BAD);
        });
        holds("30: an answer of -1 that is not refused is 0", s -> {
            s.ray(1);
            s.x.ray(-1);
            s.is("unlike(0, 0)", s.x.unlike(0, 0), -1);
        });
    }

    private static void statusOfTelling() {
        holds("30: but count(): it leaves a refusal", s -> {
            s.x.undo();
            s.x.count(0);
            s.tells("status()", s.x.status(), STATE);
        });
        holds("30: but count(): BAD of its own is not told", s -> {
            s.x.drop();
            s.x.count(5);
            s.x.count(-1);
            s.tells("status()", s.x.status(), 0);
        });
        holds("30: but trace(): it leaves a refusal", s -> {
            s.x.undo();
            s.x.trace(0);
            s.tells("status()", s.x.status(), STATE);
        });
        holds("30: but trace(): BAD of its own is not told", s -> {
            s.x.drop();
            s.x.trace(5);
            s.x.trace(-1);
            s.tells("status()", s.x.status(), 0);
        });
        holds("30: but status(): it leaves a refusal", s -> {
            s.x.undo();
            s.x.status();
            s.x.status();
            s.tells("status()", s.x.status(), STATE);
        });
    }

    /** A call that is refused, and one of the same name that is not: what status() tells behind each. */
    private static void status(Sentence s, int why, Runnable refused, Runnable granted) {
        s.x.drop();
        refused.run();
        s.tells("status() behind the refused one", s.x.status(), why);
        granted.run();
        s.tells("status() behind the one that is not", s.x.status(), 0);
    }

    private static void statusBehindMaking() {
        holds("30: behind put()", s -> status(s, BAD, () -> s.x.put(-1), () -> s.x.put(1)));
        holds("30: behind draw()", s -> status(s, BAD, () -> s.x.draw(0, 1, 1), () -> s.x.draw(1, 1, 1)));
        holds("30: behind drop()", s -> status(s, STATE, () -> s.x.undo(), () -> s.x.drop()));
        holds("30: behind curve()", s -> status(s, STATE, () -> s.x.curve(1, 1), () -> {
            s.x.put(1);
            s.x.curve(2, 1);
            s.x.curve(1, 1);
        }));
        holds("30: behind ray()", s -> status(s, BAD, () -> s.x.ray(-1), () -> s.x.ray(1)));
        holds("30: behind of()", s -> {
            s.ray(1);
            status(s, BAD, () -> s.x.of(6, 0, 0), () -> s.x.of(BOTH, 0, 0));
        });
        holds("30: behind times()", s -> {
            s.ray(1);
            status(s, BAD, () -> s.x.times(0, -1), () -> s.x.times(0, 1));
        });
        holds("30: behind shift()", s -> {
            s.ray(1);
            status(s, BAD, () -> s.x.shift(0, -1), () -> s.x.shift(0, 1));
        });
        holds("30: behind undo()", s -> status(s, STATE, () -> s.x.undo(), () -> {
            s.x.ray(1);
            s.x.ray(-1);
            s.x.undo();
        }));
        holds("30: behind clear()", s -> status(s, BAD, () -> s.x.ray(-1), () -> s.x.clear()));
    }

    private static void statusBehindTold() {
        holds("30: behind at()", s -> {
            s.ray(1);
            status(s, BAD, () -> s.x.at(0, -1), () -> s.x.at(0, 1));
        });
        holds("30: behind about(), each what", s -> {
            s.ray(1);
            for (int what = 0; what < 5; what++) {
                int asked = what;
                status(s, BAD, () -> s.x.about(0, 5), () -> s.x.about(0, asked));
                status(s, BAD, () -> s.x.about(1, asked), () -> s.x.about(0, asked));
            }
        });
        holds("30: behind rate()", s -> {
            s.ray(1);
            status(s, BAD, () -> s.x.rate(0, 2), () -> s.x.rate(0, 1));
        });
        holds("30: behind unlike()", s -> {
            s.ray(1);
            s.ray(2);
            status(s, BAD, () -> s.x.unlike(0, 2), () -> s.x.unlike(0, 1));
            status(s, BAD, () -> s.x.unlike(2, 0), () -> s.x.unlike(0, 0));
        });
        holds("30: behind below()", s -> {
            s.ray(1);
            s.ray(2);
            status(s, BAD, () -> s.x.below(0, 2), () -> s.x.below(0, 1));
            status(s, BAD, () -> s.x.below(2, 0), () -> s.x.below(1, 0));
        });
        holds("30: behind first()", s -> {
            s.ray(1);
            status(s, BAD, () -> s.x.first(0, -1), () -> s.x.first(0, 1));
            status(s, ENDLESS, () -> s.x.first(0, BILLION + 1L), () -> s.x.first(0, 1));
        });
        holds("30: behind heap()", s -> {
            s.ray(1);
            s.ray(2);
            status(s, ENDLESS, () -> s.x.heap(1, 0), () -> s.x.heap(0, 1));
            status(s, BAD, () -> s.x.heap(1, 2), () -> s.x.heap(0, 1));
        });
        holds("30: behind heap(), BEYOND", s -> {
            s.stair(2, 1);
            s.stair(31, 1);
            status(s, BEYOND, () -> s.x.heap(0, 1), () -> s.x.heap(0, 0));
        });
        holds("30: behind wait()", s -> {
            s.ray(1);
            s.ray(2);
            status(s, ENDLESS, () -> s.x.wait(1, 0), () -> s.x.wait(0, 1));
            status(s, BAD, () -> s.x.wait(1, 2), () -> s.x.wait(0, 1));
        });
    }

    private static void statusBehindRun() {
        holds("30: behind come()", s -> status(s, BAD, () -> s.x.come(-1), () -> s.x.come(1)));
        holds("30: behind hardest()", s -> {
            s.ray(1);
            status(s, BAD, () -> s.x.hardest(0, 61), () -> s.x.hardest(0, 60));
        });
        holds("30: behind stop()", s -> status(s, BAD, () -> s.x.come(-1), () -> s.x.stop()));
        holds("30: behind serve()", s -> {
            s.ray(1);
            status(s, BAD, () -> s.x.serve(1), () -> s.x.serve(0));
        });
        holds("30: behind moved(), each side", s -> {
            s.ray(1);
            s.come(5);
            status(s, STATE, () -> s.x.moved(1, 0), () -> s.x.moved(0, 0));
            status(s, STATE, () -> s.x.moved(2, 0), () -> s.x.moved(0, 0));
            s.x.serve(0);
            for (int side = 0; side <= 2; side++) {
                int asked = side;
                status(s, BAD, () -> s.x.moved(asked, 601), () -> s.x.moved(asked, 1));
            }
        });
        holds("30: behind late()", s -> {
            s.ray(0);
            s.come(5);
            s.x.late(0);
            s.tells("status() of STATE", s.x.status(), STATE);
            s.x.serve(0);
            status(s, BAD, () -> s.x.late(2), () -> s.x.late(0));
            status(s, ENDLESS, () -> s.x.late(1), () -> s.x.late(0));
        });
        holds("30: behind mostHeld()", s -> {
            s.ray(0);
            status(s, STATE, () -> s.x.mostHeld(), () -> s.x.serve(0));
            status(s, BAD, () -> s.x.ray(-1), () -> s.x.mostHeld());
        });
        holds("30: behind mostLate()", s -> {
            s.ray(0);
            status(s, STATE, () -> s.x.mostLate(), () -> s.x.serve(0));
            status(s, BAD, () -> s.x.ray(-1), () -> s.x.mostLate());
            s.come(5);
            status(s, ENDLESS, () -> s.x.mostLate(), () -> s.x.stop());
        });
        holds("30: behind keeps()", s -> {
            s.ray(1);
            s.come(5);
            status(s, BAD, () -> s.x.keeps(1), () -> s.x.keeps(0));
        });
    }

    private static void clear() {
        holds("31: of a new object: 1", s -> {
            s.is("clear()", s.x.clear(), 1);
            s.counts(0, 0, 0, -1, 0);
        });
        holds("31: no CURVES", s -> {
            s.curvesUpTo(60);
            s.is("clear()", s.x.clear(), 1);
            s.no("at(0, 0)", s.x.at(0, 0), -1, BAD);
            s.no("at(59, 0)", s.x.at(59, 0), -1, BAD);
            s.is("ray(5)", s.x.ray(5), 0);
        });
        holds("31: an empty ROW", s -> {
            s.x.draw(300, 1, 9);
            s.is("clear()", s.x.clear(), 1);
            s.refused("curve(1, 0)", s.x.curve(1, 0), STATE);
            s.is("drop()", s.x.drop(), 0);
        });
        holds("31: an empty ROW: draw() begins with 0", s -> {
            s.row(700);
            s.x.clear();
            s.x.draw(1, 1, 0);
            s.amounts(s.x.curve(1, 0), 0, 0);
        });
        holds("31: nothing COMES", s -> {
            s.stepsUpTo(60);
            s.is("clear()", s.x.clear(), 1);
            s.is("moved(0, 60)", s.x.moved(0, 60), 0);
            s.is("come(5)", s.x.come(5), 1);
            s.is("moved(0, 1)", s.x.moved(0, 1), 5);
        });
        holds("31: by no CURVE", s -> {
            s.ray(1);
            s.x.serve(0);
            s.x.clear();
            s.tells("count(3)", s.x.count(3), -1);
            s.ray(1);
            s.no("moved(1, 0)", s.x.moved(1, 0), -1, STATE);
        });
        holds("31: nothing to undo", s -> {
            s.ray(1);
            s.x.clear();
            s.tells("count(4)", s.x.count(4), 0);
            s.refused("undo()", s.x.undo(), STATE);
        });
        holds("31: status() is 0", s -> {
            s.x.ray(-1);
            s.is("clear()", s.x.clear(), 1);
        });
        holds("31: but trace()", s -> {
            s.x.at(s.flat(3), 1);
            s.x.at(s.burst(3, 1), 1);
            s.x.at(s.late(3, 1), 1);
            s.x.at(s.stair(3, 1), 1);
            s.x.clear();
            traced(s, 1, 1, 1, 1, 1);
        });
        holds("31: twice", s -> {
            s.ray(1);
            s.is("clear()", s.x.clear(), 1);
            s.is("clear()", s.x.clear(), 1);
        });
        holds("31: 60 CURVES, 300 AMOUNTS and 60 STEPS may come again", s -> {
            s.curvesUpTo(60);
            s.again(300);
            s.x.hardest(1, 60);
            s.x.clear();
            s.curvesUpTo(59);
            s.is("ray, the 60th", s.x.ray(1), 59);
            s.is("draw(300, 1, 1)", s.x.draw(300, 1, 1), 300);
            s.is("hardest(1, 60)", s.x.hardest(1, 60), 60);
        });
    }

    private static void manyCalls() {
        holds("an object is used for 512 calls: the 512th answers as the first", s -> {
            for (int i = 1; i <= 170; i++) {
                s.tells("ray", s.x.ray(i), 0);
                s.tells("at", s.x.at(0, 2), 2L * i);
                s.tells("undo", s.x.undo(), 0);
            }
            s.tells("trace(2), the 511th", s.x.trace(2), 170);
            s.tells("ray, the 512th", s.x.ray(9), 0);
        });
        holds("an object is used for 512 calls: the dearest ones", s -> {
            s.again(259);
            s.x.put(60);
            int f = s.x.curve(60, 60);
            for (int i = 0; i < 250; i++) {
                s.tells("of", s.x.of(OFF, f, f), 1);
                s.tells("undo", s.x.undo(), 1);
            }
        });
    }
}
