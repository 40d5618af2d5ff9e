import java.util.ArrayList;
import java.util.List;
import java.util.function.ToLongFunction;

/**
 * "Refused, and nothing else is changed, the first that fits: BAD, STATE, FULL, BEYOND, ENDLESS. status()
 * tells it": each call that can be refused, for each reason (and where more than one fits), on a bench
 * that has a twin without that call. All that can be told of both must be the same.
 */
public final class RefusalsTest {
    private static final int BILLION = 1000000000;
    private static final long TOP = 1000000000000L;
    private static final int BAD = -1, STATE = -2, FULL = -3, BEYOND = -4, ENDLESS = -5;
    private static final int EMPTY = 0, RICH = 1, UNDONE = 2, LONG = 3, CROWDED = 4, KINDS = 5;
    private static final String[] NAMES = {"empty", "rich", "undone", "long", "full"};
    private static final int ONE = 0, TWO = 1, SEVENTHS = 2, NINTHS = 3, STEEP = 4, LATE = 5, TALL = 6, LAST = 7;

    private static final List<Refused> calls = new ArrayList<>();
    private static int wrong = 0;

    private record Refused(int bench, String name, ToLongFunction<FlowCurves> call, long answer, int why) {
    }

    public static void main(String[] args) {
        bad();
        badAheadOfOthers();
        state();
        full();
        beyond();
        endless();
        for (Refused one : calls) {
            check(one);
        }
        System.out.println("RefusalsTest: " + calls.size() + " refused calls, " + wrong + " wrong");
        if (wrong != 0 || calls.isEmpty()) {
            System.exit(1);
        }
    }

    /** A reason is told as it is; where an AMOUNT is told, as -1. */
    private static void on(int bench, String name, int why, ToLongFunction<FlowCurves> call) {
        calls.add(new Refused(bench, name, call, why, why));
    }

    private static void amountOn(int bench, String name, int why, ToLongFunction<FlowCurves> call) {
        calls.add(new Refused(bench, name, call, -1, why));
    }

    private static void unlikeOn(int bench, String name, int why, ToLongFunction<FlowCurves> call) {
        calls.add(new Refused(bench, name, call, -2, why));
    }

    private static void check(Refused one) {
        FlowCurves x = bench(one.bench);
        FlowCurves twin = bench(one.bench);
        long got = one.call.applyAsLong(x);
        int status = x.status();
        String where = one.name + " on the " + NAMES[one.bench] + " bench";
        due(where, got, one.answer);
        due("status() behind " + where, status, one.why);
        List<Long> told = told(x, one.bench);
        List<Long> wanted = told(twin, one.bench);
        if (!told.equals(wanted)) {
            wrong++;
            System.out.println(where + " changed what is told: " + told + ", due is " + wanted);
        }
    }

    private static void due(String what, long got, long want) {
        if (got != want) {
            wrong++;
            System.out.println(what + " answered " + got + ", due is " + want);
        }
    }

    // ---- benches

    private static FlowCurves bench(int kind) {
        FlowCurves x = new FlowCurves();
        if (kind == EMPTY) {
            return x;
        }
        x.ray(1);
        x.ray(2);
        x.draw(7, 0, 0);
        x.curve(7, 100);
        x.draw(9, 0, 0);
        x.curve(9, 1);
        x.ray(BILLION);
        x.draw(2, 0, 0);
        x.curve(1, 1);
        x.put(0);
        x.put(BILLION + 1L);
        x.curve(1, 0);
        x.times(ONE, 3);
        x.come(4);
        x.come(5);
        x.serve(TWO);
        x.at(ONE, 1);
        x.at(LATE, 1);
        if (kind == UNDONE) {
            x.ray(9);
            x.serve(LAST + 1);
            x.undo();
        }
        if (kind == CROWDED) {
            for (int i = x.count(0); i < 60; i++) {
                x.ray(i);
            }
            for (int i = x.count(2); i < 60; i++) {
                x.come(i);
            }
            x.draw(210, 0, 0);
            x.put(5);
            x.draw(89, 1, 4);
        } else if (kind == LONG) {
            x.draw(203, 0, 0);
            x.put(1);
        } else {
            x.put(3);
            x.put(5);
            x.put(9);
        }
        return x;
    }

    /** All that can be told of a bench; it is used up by that, as undo() and curve() tell of it, too. */
    private static List<Long> told(FlowCurves x, int bench) {
        List<Long> told = new ArrayList<>();
        for (int b = 0; b < 5; b++) {
            told.add((long) x.trace(b));
        }
        for (int what = 0; what < 5; what++) {
            told.add((long) x.count(what));
        }
        int n = x.count(0);
        for (int f = 0; f < n; f++) {
            told.add((long) x.about(f, 0) + 1000L * x.about(f, 1));
            told.add(x.at(f, 1));
            told.add(x.at(f, BILLION));
        }
        for (int t : new int[] {0, 1, 2, 3, 60, 600}) {
            told.add(x.moved(0, t));
            told.add(x.moved(1, t));
        }
        told.add(x.mostHeld());
        told.add((long) x.undo());
        told.add((long) x.undo());
        told.add((long) x.count(3));
        row(x, bench, told);
        return told;
    }

    /** Where the row's T is above 200 it is told by a refusal and by how many it has. */
    private static void row(FlowCurves x, int bench, List<Long> told) {
        int length = x.count(1);
        told.add((long) x.curve(1, BILLION));
        told.add((long) x.count(1));
        if (bench != CROWDED && bench != LONG) {
            for (int t = 0; t < length; t++) {
                told.add(x.at(x.count(0) - 1, t));
            }
        }
    }

    // ---- refused calls

    private static void bad() {
        for (int bench = EMPTY; bench < KINDS; bench++) {
            on(bench, "put(-1)", BAD, x -> x.put(-1));
            on(bench, "put(TOP + 1)", BAD, x -> x.put(TOP + 1));
            on(bench, "draw(0, 1, 1)", BAD, x -> x.draw(0, 1, 1));
            on(bench, "draw(301, 1, 1)", BAD, x -> x.draw(301, 1, 1));
            on(bench, "draw(1, 1, -1)", BAD, x -> x.draw(1, 1, -1));
            on(bench, "draw(1, 1, 1000001)", BAD, x -> x.draw(1, 1, 1000001));
            on(bench, "curve(0, 0)", BAD, x -> x.curve(0, 0));
            on(bench, "curve(61, 0)", BAD, x -> x.curve(61, 0));
            on(bench, "curve(1, -1)", BAD, x -> x.curve(1, -1));
            on(bench, "curve(1, BILLION + 1)", BAD, x -> x.curve(1, BILLION + 1));
            on(bench, "ray(-1)", BAD, x -> x.ray(-1));
            on(bench, "ray(BILLION + 1)", BAD, x -> x.ray(BILLION + 1));
            on(bench, "of(0, 60, 0)", BAD, x -> x.of(0, 60, 0));
            on(bench, "of(0, 0, -1)", BAD, x -> x.of(0, 0, -1));
            on(bench, "of(6, 0, 1)", BAD, x -> x.of(6, 0, 1));
            on(bench, "of(-1, SEVENTHS, NINTHS)", BAD, x -> x.of(-1, SEVENTHS, NINTHS));
            on(bench, "times(60, 1)", BAD, x -> x.times(60, 1));
            on(bench, "times(STEEP, 1001)", BAD, x -> x.times(STEEP, 1001));
            on(bench, "times(0, -1)", BAD, x -> x.times(0, -1));
            on(bench, "shift(-1, 1)", BAD, x -> x.shift(-1, 1));
            on(bench, "shift(LATE, 201)", BAD, x -> x.shift(LATE, 201));
            on(bench, "shift(0, -1)", BAD, x -> x.shift(0, -1));
            amountOn(bench, "at(60, 0)", BAD, x -> x.at(60, 0));
            amountOn(bench, "at(0, -1)", BAD, x -> x.at(0, -1));
            amountOn(bench, "at(0, BILLION + 1)", BAD, x -> x.at(0, BILLION + 1));
            on(bench, "about(60, 0)", BAD, x -> x.about(60, 0));
            on(bench, "about(0, 5)", BAD, x -> x.about(0, 5));
            on(bench, "rate(-1, 0)", BAD, x -> x.rate(-1, 0));
            on(bench, "rate(0, 2)", BAD, x -> x.rate(0, 2));
            unlikeOn(bench, "unlike(60, 0)", BAD, x -> x.unlike(60, 0));
            unlikeOn(bench, "unlike(0, -1)", BAD, x -> x.unlike(0, -1));
            on(bench, "below(60, 0)", BAD, x -> x.below(60, 0));
            on(bench, "below(0, 60)", BAD, x -> x.below(0, 60));
            on(bench, "first(60, 0)", BAD, x -> x.first(60, 0));
            on(bench, "first(0, -1)", BAD, x -> x.first(0, -1));
            amountOn(bench, "heap(60, 0)", BAD, x -> x.heap(60, 0));
            amountOn(bench, "heap(0, -1)", BAD, x -> x.heap(0, -1));
            on(bench, "wait(60, 0)", BAD, x -> x.wait(60, 0));
            on(bench, "wait(0, -1)", BAD, x -> x.wait(0, -1));
            on(bench, "come(-1)", BAD, x -> x.come(-1));
            on(bench, "come(BILLION + 1)", BAD, x -> x.come(BILLION + 1));
            on(bench, "hardest(60, 1)", BAD, x -> x.hardest(60, 1));
            on(bench, "hardest(0, 61)", BAD, x -> x.hardest(0, 61));
            on(bench, "hardest(0, -1)", BAD, x -> x.hardest(0, -1));
            on(bench, "hardest(TALL, 5)", BAD, x -> x.hardest(TALL, 5));
            on(bench, "serve(60)", BAD, x -> x.serve(60));
            on(bench, "serve(-1)", BAD, x -> x.serve(-1));
            amountOn(bench, "moved(3, 0)", BAD, x -> x.moved(3, 0));
            amountOn(bench, "moved(0, -1)", BAD, x -> x.moved(0, -1));
            amountOn(bench, "moved(1, 601)", BAD, x -> x.moved(1, 601));
            on(bench, "late(-1)", BAD, x -> x.late(-1));
            on(bench, "late(61)", BAD, x -> x.late(61));
            on(bench, "keeps(60)", BAD, x -> x.keeps(60));
            on(bench, "keeps(-1)", BAD, x -> x.keeps(-1));
        }
    }

    private static void badAheadOfOthers() {
        on(EMPTY, "late(1)", BAD, x -> x.late(1));
        on(UNDONE, "late(3)", BAD, x -> x.late(3));
        amountOn(UNDONE, "moved(2, 601)", BAD, x -> x.moved(2, 601));
        on(RICH, "curve(61, -1)", BAD, x -> x.curve(61, -1));
        on(RICH, "of(5, STEEP, 8)", BAD, x -> x.of(5, STEEP, 8));
        on(UNDONE, "serve(8), undone", BAD, x -> x.serve(8));
        amountOn(UNDONE, "at(8, 0), undone", BAD, x -> x.at(8, 0));
    }

    private static void state() {
        on(EMPTY, "undo()", STATE, x -> x.undo());
        on(UNDONE, "undo()", STATE, x -> x.undo());
        on(EMPTY, "curve(1, 0)", STATE, x -> x.curve(1, 0));
        on(EMPTY, "curve(60, 0)", STATE, x -> x.curve(60, 0));
        on(RICH, "curve(4, 9) of three", STATE, x -> x.curve(4, 9));
        on(RICH, "curve(3, 5), would fall", STATE, x -> x.curve(3, 5));
        on(UNDONE, "curve(2, 3), would fall", STATE, x -> x.curve(2, 3));
        on(CROWDED, "curve(60, 0), would fall, ahead of FULL", STATE, x -> x.curve(60, 0));
        for (int bench : new int[] {EMPTY, UNDONE}) {
            amountOn(bench, "moved(1, 0)", STATE, x -> x.moved(1, 0));
            amountOn(bench, "moved(2, 600)", STATE, x -> x.moved(2, 600));
            on(bench, "late(0)", STATE, x -> x.late(0));
            amountOn(bench, "mostHeld()", STATE, x -> x.mostHeld());
            on(bench, "mostLate()", STATE, x -> x.mostLate());
        }
    }

    private static void full() {
        on(CROWDED, "put(9)", FULL, x -> x.put(9));
        on(CROWDED, "draw(1, 1, 1)", FULL, x -> x.draw(1, 1, 1));
        on(RICH, "draw(298, 1, 1)", FULL, x -> x.draw(298, 1, 1));
        on(CROWDED, "curve(1, 9), ahead of BEYOND", FULL, x -> x.curve(1, 9));
        on(CROWDED, "ray(1)", FULL, x -> x.ray(1));
        for (int way = 0; way <= 5; way++) {
            int w = way;
            on(CROWDED, "of(" + w + ", ONE, TWO)", FULL, x -> x.of(w, ONE, TWO));
            on(CROWDED, "of(" + w + ", SEVENTHS, NINTHS), ahead of P", FULL, x -> x.of(w, SEVENTHS, NINTHS));
        }
        on(CROWDED, "of(0, STEEP, ONE), ahead of BEYOND", FULL, x -> x.of(0, STEEP, ONE));
        on(CROWDED, "of(5, STEEP, ONE), ahead of ENDLESS", FULL, x -> x.of(5, STEEP, ONE));
        on(CROWDED, "times(ONE, 2)", FULL, x -> x.times(ONE, 2));
        on(CROWDED, "times(STEEP, 2), ahead of BEYOND", FULL, x -> x.times(STEEP, 2));
        on(CROWDED, "shift(ONE, 2)", FULL, x -> x.shift(ONE, 2));
        on(CROWDED, "shift(LATE, 200), ahead of BEYOND", FULL, x -> x.shift(LATE, 200));
        on(CROWDED, "come(1)", FULL, x -> x.come(1));
    }

    private static void beyond() {
        for (int bench : new int[] {RICH, UNDONE}) {
            for (int way = 0; way <= 5; way++) {
                int w = way;
                on(bench, "of(" + w + ", SEVENTHS, NINTHS)", BEYOND, x -> x.of(w, SEVENTHS, NINTHS));
            }
            on(bench, "of(0, STEEP, ONE)", BEYOND, x -> x.of(0, STEEP, ONE));
            on(bench, "times(STEEP, 2)", BEYOND, x -> x.times(STEEP, 2));
            on(bench, "shift(LATE, 200)", BEYOND, x -> x.shift(LATE, 200));
        }
        for (int bench : new int[] {RICH, UNDONE, CROWDED}) {
            unlikeOn(bench, "unlike(SEVENTHS, NINTHS)", BEYOND, x -> x.unlike(SEVENTHS, NINTHS));
            on(bench, "below(SEVENTHS, NINTHS)", BEYOND, x -> x.below(SEVENTHS, NINTHS));
            amountOn(bench, "heap(SEVENTHS, NINTHS), ahead of ENDLESS", BEYOND, x -> x.heap(SEVENTHS, NINTHS));
            on(bench, "wait(SEVENTHS, NINTHS), ahead of ENDLESS", BEYOND, x -> x.wait(SEVENTHS, NINTHS));
        }
        on(LONG, "curve(1, 0), T is 203", BEYOND, x -> x.curve(1, 0));
        on(LONG, "curve(2, 5), T is 202", BEYOND, x -> x.curve(2, 5));
    }

    private static void endless() {
        for (int bench : new int[] {RICH, UNDONE}) {
            on(bench, "of(5, TWO, ONE)", ENDLESS, x -> x.of(5, TWO, ONE));
            on(bench, "of(5, STEEP, TALL), ahead of BEYOND", ENDLESS, x -> x.of(5, STEEP, TALL));
        }
        for (int bench : new int[] {RICH, UNDONE, CROWDED}) {
            on(bench, "first(TALL, BILLION + 2)", ENDLESS, x -> x.first(TALL, BILLION + 2L));
            on(bench, "first(ONE, BILLION + 1)", ENDLESS, x -> x.first(ONE, BILLION + 1L));
            amountOn(bench, "heap(TWO, ONE)", ENDLESS, x -> x.heap(TWO, ONE));
            on(bench, "wait(TWO, ONE)", ENDLESS, x -> x.wait(TWO, ONE));
            on(bench, "wait(TALL, LATE)", ENDLESS, x -> x.wait(TALL, LATE));
        }
        on(CROWDED, "late(60)", ENDLESS, x -> x.late(60));
        on(CROWDED, "mostLate()", ENDLESS, x -> x.mostLate());
    }
}
