import java.util.function.Consumer;

/** The edges that the document names in A RUN and in promises 19 to 27. */
public final class EdgesOfRunsTest {
    private static final int BILLION = Sentence.BILLION;
    private static final long TOP = Sentence.TOP;
    private static final int BAD = Sentence.BAD, STATE = Sentence.STATE, FULL = Sentence.FULL;
    private static final int ENDLESS = Sentence.ENDLESS;

    public static void main(String[] args) {
        come();
        hardestBounds();
        hardestSteps();
        stop();
        serve();
        movedBounds();
        moved();
        lateBounds();
        late();
        mostHeld();
        mostLate();
        keeps();
        Sentence.end("EdgesOfRunsTest");
    }

    private static void holds(String words, Consumer<Sentence> test) {
        Sentence.holds(words, test);
    }

    private static void arrived(Sentence s, long... wanted) {
        for (int t = 0; t < wanted.length; t++) {
            s.is("moved(0, " + t + ")", s.x.moved(0, t), wanted[t]);
        }
    }

    private static void passed(Sentence s, long... wanted) {
        for (int t = 0; t < wanted.length; t++) {
            s.is("moved(1, " + t + ")", s.x.moved(1, t), wanted[t]);
        }
    }

    private static void come() {
        holds("19: AMOUNTS 0 and 1000000000", s -> {
            s.is("come(0)", s.x.come(0), 1);
            s.is("come(1000000000)", s.x.come(BILLION), 2);
            arrived(s, 0, 0, BILLION, BILLION);
        });
        holds("19: -1 is BAD", s -> s.refused("come(-1)", s.x.come(-1), BAD));
        holds("19: 1000000001 is BAD", s -> s.refused("come", s.x.come(BILLION + 1), BAD));
        holds("19: far out of its bounds is BAD", s -> {
            s.refused("come", s.x.come(Integer.MIN_VALUE), BAD);
            s.refused("come", s.x.come(Integer.MAX_VALUE), BAD);
        });
        holds("19: how many STEPS, up to 60", s -> {
            for (int n = 1; n <= 60; n++) {
                s.is("come(" + n + ")", s.x.come(n), n);
            }
            s.is("moved(0, 60)", s.x.moved(0, 60), 1830);
        });
        holds("19: FULL: the 61st does not come", s -> {
            s.stepsUpTo(60);
            s.refused("come(1)", s.x.come(1), FULL);
            s.tells("count(2)", s.x.count(2), 60);
            s.is("moved(0, 600)", s.x.moved(0, 600), 60);
        });
        holds("19: FULL of 0 too", s -> {
            s.stepsUpTo(60);
            s.refused("come(0)", s.x.come(0), FULL);
        });
        holds("19: BAD is ahead of FULL", s -> {
            s.stepsUpTo(60);
            s.refused("come(-1)", s.x.come(-1), BAD);
            s.refused("come(1000000001)", s.x.come(BILLION + 1), BAD);
        });
        holds("19: a refused one does not come", s -> {
            s.come(4);
            s.x.come(-1);
            s.x.come(BILLION + 1);
            s.tells("count(2)", s.x.count(2), 1);
            arrived(s, 0, 4, 4);
        });
        holds("19: 60 of 1000000000", s -> {
            for (int n = 0; n < 60; n++) {
                s.x.come(BILLION);
            }
            s.is("moved(0, 60)", s.x.moved(0, 60), 60L * BILLION);
            s.is("moved(0, 59)", s.x.moved(0, 59), 59L * BILLION);
        });
    }

    private static void hardestBounds() {
        holds("20: n 0: nothing COMES in place of what there is", s -> {
            s.ray(3);
            s.come(5, 6);
            s.is("hardest(0, 0)", s.x.hardest(0, 0), 0);
            s.tells("count(2)", s.x.count(2), 0);
            arrived(s, 0, 0);
        });
        holds("20: n 1", s -> {
            s.ray(3);
            s.is("hardest(0, 1)", s.x.hardest(0, 1), 1);
            arrived(s, 0, 3, 3);
        });
        holds("20: n 60", s -> {
            s.ray(BILLION);
            s.is("hardest(0, 60)", s.x.hardest(0, 60), 60);
            s.tells("count(2)", s.x.count(2), 60);
            s.is("moved(0, 60)", s.x.moved(0, 60), 60L * BILLION);
        });
        holds("20: n -1 is BAD", s -> {
            s.ray(3);
            s.refused("hardest(0, -1)", s.x.hardest(0, -1), BAD);
            s.refused("hardest", s.x.hardest(0, Integer.MIN_VALUE), BAD);
        });
        holds("20: n 61 is BAD, not FULL", s -> {
            s.ray(3);
            s.refused("hardest(0, 61)", s.x.hardest(0, 61), BAD);
            s.refused("hardest", s.x.hardest(0, Integer.MAX_VALUE), BAD);
        });
        holds("20: no such CURVE is BAD, of 0 STEPS too", s -> {
            s.ray(3);
            s.refused("hardest(1, 0)", s.x.hardest(1, 0), BAD);
            s.refused("hardest(-1, 5)", s.x.hardest(-1, 5), BAD);
        });
        holds("20: BAD: an AMOUNT of STEP 1 above 1000000000", s -> {
            int f = s.burst(BILLION, 0);
            int g = s.burst(BILLION + 1L, 0);
            s.is("hardest(f, 1)", s.x.hardest(f, 1), 1);
            s.refused("hardest(g, 1)", s.x.hardest(g, 1), BAD);
            s.is("hardest(g, 0)", s.x.hardest(g, 0), 0);
        });
        holds("20: BAD: an AMOUNT of STEP 60 above 1000000000", s -> {
            int f = s.jump(60, BILLION);
            int g = s.jump(60, BILLION + 1L);
            s.is("hardest(f, 60)", s.x.hardest(f, 60), 60);
            s.refused("hardest(g, 60)", s.x.hardest(g, 60), BAD);
            s.is("hardest(g, 59)", s.x.hardest(g, 59), 59);
        });
        holds("20: f(0) and what is behind STEP n may be above", s -> {
            int f = s.made(1, 0, 7, 7, TOP);
            s.is("hardest(f, 1)", s.x.hardest(f, 1), 1);
            s.refused("hardest(f, 2)", s.x.hardest(f, 2), BAD);
        });
        holds("20: n 0 of f(0) above 1000000000 is no STEP at all", s -> {
            int f = s.flat(TOP);
            s.is("hardest(f, 0)", s.x.hardest(f, 0), 0);
            s.refused("hardest(f, 1)", s.x.hardest(f, 1), BAD);
        });
        holds("20: refused, what there is stays", s -> {
            int g = s.jump(3, BILLION + 1L);
            s.come(5, 6);
            s.x.hardest(g, 3);
            s.x.hardest(g, 61);
            s.x.hardest(9, 1);
            s.tells("count(2)", s.x.count(2), 2);
            arrived(s, 0, 5, 11, 11, 11);
        });
    }

    private static void hardestSteps() {
        holds("20: of STEP 1 f(1), not f(1) - f(0)", s -> {
            int f = s.made(1, 2, 5, 6, 9);
            s.is("hardest(f, 3)", s.x.hardest(f, 3), 3);
            arrived(s, 0, 6, 9, 11, 11);
        });
        holds("20: of STEP 1 f(1) of a flat one, then 0", s -> {
            s.is("hardest", s.x.hardest(s.flat(5), 4), 4);
            arrived(s, 0, 5, 5, 5, 5);
        });
        holds("20: of STEP 1 f(1) above 1000000000 is BAD, though f(1) - f(0) is not", s -> {
            int f = s.flat(BILLION + 1L);
            s.refused("hardest(f, 1)", s.x.hardest(f, 1), BAD);
        });
        holds("20: in place of what there is, longer or shorter", s -> {
            s.ray(2);
            s.come(50, 60, 70);
            s.is("hardest(0, 2)", s.x.hardest(0, 2), 2);
            arrived(s, 0, 2, 4, 4, 4);
            s.is("hardest(0, 5)", s.x.hardest(0, 5), 5);
            arrived(s, 0, 2, 4, 6, 8, 10, 10);
        });
        holds("20: in place of a full run", s -> {
            s.ray(2);
            s.stepsUpTo(60);
            s.is("hardest(0, 60)", s.x.hardest(0, 60), 60);
            s.is("moved(0, 60)", s.x.moved(0, 60), 120);
            s.refused("come(1)", s.x.come(1), FULL);
        });
        holds("20: it has come round within n", s -> {
            int f = s.made(2, 5, 0, 1, 4);
            s.is("hardest(f, 6)", s.x.hardest(f, 6), 6);
            arrived(s, 0, 1, 4, 6, 9, 11, 14);
        });
        holds("20: the CURVE by which it is SERVED stays", s -> {
            s.ray(2);
            s.x.serve(0);
            s.x.hardest(0, 2);
            s.tells("count(3)", s.x.count(3), 0);
        });
        holds("20: more may come behind it", s -> {
            s.ray(2);
            s.x.hardest(0, 59);
            s.is("come(3)", s.x.come(3), 60);
            s.is("moved(0, 60)", s.x.moved(0, 60), 121);
        });
    }

    private static void stop() {
        holds("21: of nothing: 0", s -> s.is("stop()", s.x.stop(), 0));
        holds("21: of 60", s -> {
            s.stepsUpTo(60);
            s.is("stop()", s.x.stop(), 60);
            s.is("come(8)", s.x.come(8), 1);
            arrived(s, 0, 8, 8, 8);
        });
        holds("21: nothing COMES any more", s -> {
            s.come(5, 6);
            s.is("stop()", s.x.stop(), 2);
            s.tells("count(2)", s.x.count(2), 0);
            arrived(s, 0, 0, 0);
            s.is("stop()", s.x.stop(), 0);
        });
        holds("21: the CURVE by which it is SERVED stays", s -> {
            s.ray(1);
            s.x.serve(0);
            s.come(5);
            s.x.stop();
            s.tells("count(3)", s.x.count(3), 0);
            s.is("mostHeld()", s.x.mostHeld(), 0);
        });
        holds("21: late(1) is BAD then, as n is 0", s -> {
            s.ray(1);
            s.x.serve(0);
            s.come(5);
            s.x.stop();
            s.refused("late(1)", s.x.late(1), BAD);
            s.is("late(0)", s.x.late(0), 0);
        });
    }

    private static void serve() {
        holds("22: CURVE 0, CURVE 59", s -> {
            s.curvesUpTo(60);
            s.is("serve(0)", s.x.serve(0), 1);
            s.tells("count(3)", s.x.count(3), 0);
            s.is("serve(59)", s.x.serve(59), 1);
            s.tells("count(3)", s.x.count(3), 59);
        });
        holds("22: no such CURVE is BAD", s -> {
            s.curvesUpTo(3);
            s.refused("serve(3)", s.x.serve(3), BAD);
            s.refused("serve(-1)", s.x.serve(-1), BAD);
            s.refused("serve", s.x.serve(Integer.MAX_VALUE), BAD);
            s.refused("serve", s.x.serve(Integer.MIN_VALUE), BAD);
            s.tells("count(3)", s.x.count(3), -1);
        });
        holds("22: refused, it is SERVED as before", s -> {
            s.curvesUpTo(3);
            s.x.serve(2);
            s.x.serve(3);
            s.x.serve(-1);
            s.tells("count(3)", s.x.count(3), 2);
        });
        holds("22: from now on by the later one, for what came before too", s -> {
            s.ray(1);
            s.ray(2);
            s.come(9);
            s.x.serve(0);
            passed(s, 0, 1, 2);
            s.x.serve(1);
            passed(s, 0, 2, 4);
        });
        holds("22: by the same one twice", s -> {
            s.ray(1);
            s.is("serve(0)", s.x.serve(0), 1);
            s.is("serve(0)", s.x.serve(0), 1);
        });
    }

    private static void movedBounds() {
        holds("23: t 0 and 600", s -> {
            s.ray(1);
            s.x.serve(0);
            s.come(700);
            for (int side = 0; side <= 2; side++) {
                s.is("moved(" + side + ", 0)", s.x.moved(side, 0), 0);
            }
            s.is("moved(0, 600)", s.x.moved(0, 600), 700);
            s.is("moved(1, 600)", s.x.moved(1, 600), 600);
            s.is("moved(2, 600)", s.x.moved(2, 600), 100);
        });
        holds("23: t -1 is BAD: -1", s -> {
            s.ray(1);
            s.x.serve(0);
            for (int side = 0; side <= 2; side++) {
                s.no("moved(" + side + ", -1)", s.x.moved(side, -1), -1, BAD);
            }
        });
        holds("23: t 601 is BAD: -1", s -> {
            s.ray(1);
            s.x.serve(0);
            for (int side = 0; side <= 2; side++) {
                s.no("moved(" + side + ", 601)", s.x.moved(side, 601), -1, BAD);
            }
        });
        holds("23: side -1 and 3 are BAD: -1", s -> {
            s.ray(1);
            s.x.serve(0);
            s.no("moved(-1, 0)", s.x.moved(-1, 0), -1, BAD);
            s.no("moved(3, 0)", s.x.moved(3, 0), -1, BAD);
            s.no("moved", s.x.moved(Integer.MAX_VALUE, Integer.MIN_VALUE), -1, BAD);
        });
        holds("23: STATE of 1 and 2: -1", s -> {
            s.come(4);
            s.no("moved(1, 0)", s.x.moved(1, 0), -1, STATE);
            s.no("moved(2, 0)", s.x.moved(2, 0), -1, STATE);
        });
        holds("23: no STATE of 0", s -> {
            s.come(4);
            s.is("moved(0, 1)", s.x.moved(0, 1), 4);
        });
        holds("23: BAD is ahead of STATE", s -> {
            s.no("moved(1, 601)", s.x.moved(1, 601), -1, BAD);
            s.no("moved(2, -1)", s.x.moved(2, -1), -1, BAD);
            s.no("moved(3, 0)", s.x.moved(3, 0), -1, BAD);
        });
    }

    private static void moved() {
        holds("A(0) is 0, also with much at STEP 1", s -> {
            s.come(9);
            s.is("moved(0, 0)", s.x.moved(0, 0), 0);
        });
        holds("behind the last STEP n A(t) is A(n)", s -> {
            s.come(9, 4);
            arrived(s, 0, 9, 13, 13, 13);
        });
        holds("behind the 60th STEP A(t) is A(60)", s -> {
            s.stepsUpTo(60);
            s.is("moved(0, 60)", s.x.moved(0, 60), 60);
            s.is("moved(0, 61)", s.x.moved(0, 61), 60);
            s.is("moved(0, 600)", s.x.moved(0, 600), 60);
        });
        holds("B(0) is the lesser of A(0) and g(0)", s -> {
            s.x.serve(s.flat(5));
            s.come(3);
            passed(s, 0, 3, 3);
        });
        holds("B: s from 0: g(t) alone binds", s -> {
            s.x.serve(s.flat(5));
            s.come(9, 9);
            passed(s, 0, 5, 5, 5);
        });
        holds("B: s in between: what came later waits for itself", s -> {
            s.x.serve(s.late(2, 5));
            s.come(1, 0, 0, 20);
            passed(s, 0, 0, 0, 1, 1, 1, 6, 11, 16, 21);
        });
        holds("B: s up to the last STEP: what came at n is SERVED behind it", s -> {
            s.x.serve(s.ray(4));
            s.come(0, 0, 10);
            passed(s, 0, 0, 0, 4, 8, 10, 10);
        });
        holds("B: s is t: A(t) + g(0) is no less than A(t)", s -> {
            s.x.serve(s.made(1, 1, 3));
            s.come(2, 2, 2, 9);
            passed(s, 0, 2, 4, 6, 7, 8, 9, 10, 11, 12, 13, 14, 15, 15);
        });
        holds("HELD is A(t) - B(t), 0 where all is SERVED", s -> {
            s.x.serve(s.ray(4));
            s.come(4, 6);
            s.is("moved(2, 1)", s.x.moved(2, 1), 0);
            s.is("moved(2, 2)", s.x.moved(2, 2), 2);
            s.is("moved(2, 3)", s.x.moved(2, 3), 0);
        });
        holds("by RAY 0 nothing is SERVED", s -> {
            s.x.serve(s.ray(0));
            s.come(4);
            passed(s, 0, 0, 0);
            s.is("moved(2, 600)", s.x.moved(2, 600), 4);
        });
        holds("by the greatest CURVE all is", s -> {
            s.x.serve(s.made(1, BILLION, TOP));
            for (int n = 0; n < 60; n++) {
                s.x.come(BILLION);
            }
            s.is("moved(1, 60)", s.x.moved(1, 60), 60L * BILLION);
            s.is("moved(2, 60)", s.x.moved(2, 60), 0);
        });
    }

    private static void lateBounds() {
        holds("24: t 0 and n", s -> {
            s.x.serve(s.ray(1));
            s.come(3, 4);
            s.is("late(0)", s.x.late(0), 0);
            s.is("late(2)", s.x.late(2), 5);
        });
        holds("24: t n + 1 is BAD", s -> {
            s.x.serve(s.ray(1));
            s.come(3, 4);
            s.refused("late(3)", s.x.late(3), BAD);
        });
        holds("24: t 60 of 60, 61 is BAD", s -> {
            s.x.serve(s.ray(1));
            s.stepsUpTo(60);
            s.is("late(60)", s.x.late(60), 0);
            s.refused("late(61)", s.x.late(61), BAD);
        });
        holds("24: t -1 is BAD", s -> {
            s.x.serve(s.ray(1));
            s.refused("late(-1)", s.x.late(-1), BAD);
            s.refused("late", s.x.late(Integer.MIN_VALUE), BAD);
            s.refused("late", s.x.late(Integer.MAX_VALUE), BAD);
        });
        holds("24: t 1 of nothing is BAD, t 0 is not", s -> {
            s.x.serve(s.ray(0));
            s.refused("late(1)", s.x.late(1), BAD);
            s.is("late(0)", s.x.late(0), 0);
        });
        holds("24: STATE: it is SERVED by none", s -> {
            s.come(3);
            s.refused("late(0)", s.x.late(0), STATE);
            s.refused("late(1)", s.x.late(1), STATE);
        });
        holds("24: BAD is ahead of STATE", s -> {
            s.come(3);
            s.refused("late(2)", s.x.late(2), BAD);
            s.refused("late(-1)", s.x.late(-1), BAD);
        });
    }

    private static void late() {
        holds("24: w 0: all is SERVED at once", s -> {
            s.x.serve(s.ray(5));
            s.come(5, 5);
            s.is("late(1)", s.x.late(1), 0);
            s.is("late(2)", s.x.late(2), 0);
        });
        holds("24: w 1: one more than is SERVED at once", s -> {
            s.x.serve(s.ray(5));
            s.come(6);
            s.is("late(1)", s.x.late(1), 1);
        });
        holds("24: B(t + w) is A(t) or above: what came later counts too", s -> {
            s.x.serve(s.late(3, 4));
            s.come(1, 9);
            s.is("late(1)", s.x.late(1), 3);
            s.is("late(2)", s.x.late(2), 5);
        });
        holds("24: w 500", s -> {
            s.x.serve(s.ray(1));
            s.come(501);
            s.is("late(1)", s.x.late(1), 500);
        });
        holds("24: ENDLESS: w would be 501", s -> {
            s.x.serve(s.ray(1));
            s.come(502);
            s.refused("late(1)", s.x.late(1), ENDLESS);
        });
        holds("24: w 500 and 501 at the 60th STEP", s -> {
            s.x.serve(s.ray(1));
            for (int n = 1; n < 60; n++) {
                s.x.come(0);
            }
            s.come(501);
            s.is("late(60)", s.x.late(60), 500);
            s.x.stop();
            for (int n = 1; n < 60; n++) {
                s.x.come(0);
            }
            s.come(502);
            s.refused("late(60)", s.x.late(60), ENDLESS);
        });
        holds("24: w 499", s -> {
            s.x.serve(s.ray(1));
            s.come(500);
            s.is("late(1)", s.x.late(1), 499);
        });
        holds("24: w 255 and 256 and 257", s -> {
            s.x.serve(s.ray(1));
            for (int w = 255; w <= 257; w++) {
                s.x.stop();
                s.come(w + 1);
                s.is("late(1)", s.x.late(1), w);
            }
        });
        holds("24: ENDLESS: there is none", s -> {
            s.x.serve(s.ray(0));
            s.come(0, 1);
            s.is("late(1)", s.x.late(1), 0);
            s.refused("late(2)", s.x.late(2), ENDLESS);
        });
    }

    private static void mostHeld() {
        holds("25: -1 of STATE", s -> s.no("mostHeld()", s.x.mostHeld(), -1, STATE));
        holds("25: -1 of STATE, though something came", s -> {
            s.ray(1);
            s.come(5);
            s.no("mostHeld()", s.x.mostHeld(), -1, STATE);
        });
        holds("25: 0 of nothing", s -> {
            s.x.serve(s.ray(0));
            s.is("mostHeld()", s.x.mostHeld(), 0);
        });
        holds("25: 0, as all is SERVED at once", s -> {
            s.x.serve(s.ray(5));
            s.come(5, 5);
            s.is("mostHeld()", s.x.mostHeld(), 0);
        });
        holds("25: t up to n: the greatest at n", s -> {
            s.x.serve(s.ray(5));
            s.come(6, 5, 9);
            s.is("mostHeld()", s.x.mostHeld(), 5);
        });
        holds("25: t from 0: the greatest at 1", s -> {
            s.x.serve(s.ray(5));
            s.come(9, 0, 1);
            s.is("mostHeld()", s.x.mostHeld(), 4);
        });
        holds("25: the greatest at the 60th STEP of 60", s -> {
            s.x.serve(s.ray(0));
            for (int n = 0; n < 60; n++) {
                s.x.come(BILLION);
            }
            s.is("mostHeld()", s.x.mostHeld(), 60L * BILLION);
        });
    }

    private static void mostLate() {
        holds("26: STATE", s -> s.refused("mostLate()", s.x.mostLate(), STATE));
        holds("26: 0 of nothing", s -> {
            s.x.serve(s.ray(0));
            s.is("mostLate()", s.x.mostLate(), 0);
        });
        holds("26: the greatest at n", s -> {
            s.x.serve(s.ray(5));
            s.come(6, 5, 19);
            s.is("mostLate()", s.x.mostLate(), 3);
        });
        holds("26: the greatest at 1, less behind it", s -> {
            s.x.serve(s.late(9, 50));
            s.come(1, 0, 0);
            s.is("mostLate()", s.x.mostLate(), 9);
        });
        holds("26: 500", s -> {
            s.x.serve(s.ray(1));
            s.come(501);
            s.is("mostLate()", s.x.mostLate(), 500);
        });
        holds("26: ENDLESS: one is, at 1 alone", s -> {
            s.x.serve(s.ray(1));
            s.come(502, 0, 0);
            s.is("late(2)", s.x.late(2), 500);
            s.refused("mostLate()", s.x.mostLate(), ENDLESS);
        });
        holds("26: ENDLESS: one is, at n alone", s -> {
            s.x.serve(s.ray(1));
            s.come(1, 1, 502);
            s.refused("mostLate()", s.x.mostLate(), ENDLESS);
        });
        holds("26: ENDLESS: one is, at the 60th STEP of 60", s -> {
            s.x.serve(s.ray(1));
            for (int n = 1; n < 60; n++) {
                s.x.come(0);
            }
            s.come(502);
            s.refused("mostLate()", s.x.mostLate(), ENDLESS);
        });
        holds("26: STATE is ahead of ENDLESS", s -> {
            s.ray(0);
            s.come(502);
            s.refused("mostLate()", s.x.mostLate(), STATE);
        });
    }

    private static void keeping(Sentence s, int f, int wanted) {
        s.is("keeps(" + f + ")", s.x.keeps(f), wanted);
    }

    private static void keeps() {
        holds("27: nothing KEEPS all", s -> {
            keeping(s, s.ray(0), 1);
            keeping(s, s.flat(1), 1);
        });
        holds("27: as much as f(1) KEEPS it, one more does not", s -> {
            int f = s.burst(9, 2);
            s.come(9);
            keeping(s, f, 1);
            s.x.stop();
            s.come(10);
            keeping(s, f, 0);
        });
        holds("27: s from 0: all together", s -> {
            int f = s.burst(9, 2);
            s.come(6, 5);
            keeping(s, f, 1);
            s.x.stop();
            s.come(6, 6);
            keeping(s, f, 0);
        });
        holds("27: any s: those in between", s -> {
            int f = s.burst(9, 2);
            s.come(0, 6, 6, 0);
            keeping(s, f, 0);
            s.x.stop();
            s.come(0, 6, 5, 0);
            keeping(s, f, 1);
        });
        holds("27: t up to n: the last STEP", s -> {
            int f = s.burst(9, 2);
            s.come(0, 0, 10);
            keeping(s, f, 0);
        });
        holds("27: t up to n, 60 of 60", s -> {
            int f = s.burst(9, 2);
            for (int n = 1; n < 60; n++) {
                s.x.come(0);
            }
            s.come(10);
            keeping(s, f, 0);
            s.x.stop();
            s.x.hardest(f, 60);
            keeping(s, f, 1);
        });
        holds("27: f(0) above 0 is no harm, f(t - s) of t is s is 0 at least", s -> {
            int f = s.flat(5);
            s.come(5, 0);
            keeping(s, f, 1);
            s.x.stop();
            s.come(5, 1);
            keeping(s, f, 0);
        });
        holds("27: THE HARDEST RUN of a CLOSED one KEEPS it", s -> {
            int f = s.made(3, 2, 0, 2, 2);
            s.x.hardest(f, 60);
            keeping(s, f, 1);
        });
        holds("27: THE HARDEST RUN of one that is not CLOSED does not", s -> {
            int f = s.late(1, 1);
            s.x.hardest(f, 60);
            keeping(s, f, 0);
        });
        holds("27: whatever it is SERVED by", s -> {
            int f = s.burst(9, 2);
            s.come(9);
            s.x.serve(s.ray(0));
            keeping(s, f, 1);
        });
        holds("27: no such CURVE is BAD", s -> {
            s.ray(1);
            s.refused("keeps(1)", s.x.keeps(1), BAD);
            s.refused("keeps(-1)", s.x.keeps(-1), BAD);
            s.refused("keeps", s.x.keeps(Integer.MAX_VALUE), BAD);
        });
    }
}
