import java.util.function.Consumer;

/**
 * One sentence (or part of one) of the document that names a boundary case, tested on a new object of
 * its own. What is due is told by its calls; a call that is not refused must leave status() at 0.
 */
final class Sentence {
    static final int BILLION = 1000000000;
    static final long TOP = 1000000000000L;
    static final int BAD = -1, STATE = -2, FULL = -3, BEYOND = -4, ENDLESS = -5;
    static final int SUM = 0, LEAST = 1, MOST = 2, REST = 3, BOTH = 4, OFF = 5;
    static final int START = 0, STEP = 1, GAIN = 2, KIND = 3, CLOSED = 4;

    private static int sentences = 0;
    private static int wrong = 0;

    final FlowCurves x = new FlowCurves();
    private final String words;

    private Sentence(String words) {
        this.words = words;
    }

    static void holds(String words, Consumer<Sentence> test) {
        sentences++;
        test.accept(new Sentence(words));
    }

    /** Tells how it went and ends with exit code 1 if an answer was not the one that is due. */
    static void end(String name) {
        System.out.println(name + ": " + sentences + " sentences, " + wrong + " wrong");
        if (wrong != 0 || sentences == 0) {
            System.exit(1);
        }
    }

    // ---- what is due

    /** An answer that is not refused. */
    void is(String call, long got, long want) {
        int status = x.status();
        tells(call, got, want);
        tells("status() behind " + call, status, 0);
    }

    /** A refused call. */
    void no(String call, long got, long want, int why) {
        int status = x.status();
        tells(call, got, want);
        tells("status() behind " + call, status, why);
    }

    /** An answer alone, whatever status() is. */
    void tells(String call, long got, long want) {
        if (got != want) {
            wrong++;
            System.out.println("[" + words + "] " + call + " answered " + got + ", due is " + want);
        }
    }

    void refused(String call, long got, int why) {
        no(call, got, why, why);
    }

    void amounts(int f, long... wanted) {
        for (int t = 0; t < wanted.length; t++) {
            is("at(" + f + ", " + t + ")", x.at(f, t), wanted[t]);
        }
    }

    void terms(int f, int start, int step, int gain) {
        is("START of " + f, x.about(f, START), start);
        is("STEP of " + f, x.about(f, STEP), step);
        is("GAIN of " + f, x.about(f, GAIN), gain);
    }

    void counts(int curves, int row, int steps, int server, int mayUndo) {
        tells("count(0)", x.count(0), curves);
        tells("count(1)", x.count(1), row);
        tells("count(2)", x.count(2), steps);
        tells("count(3)", x.count(3), server);
        tells("count(4)", x.count(4), mayUndo);
    }

    // ---- what the sentences stand on: each must come, or it is told

    void row(long... amounts) {
        int n = x.count(1);
        for (long amount : amounts) {
            n++;
            tells("put(" + amount + ")", x.put(amount), n);
        }
    }

    /** The last of THE ROW n times more (0, if it is empty): one call, as an object has but 512. */
    void again(int n) {
        if (n > 0) {
            x.draw(n, 0, 0);
        }
    }

    private int came(String call, int f) {
        is(call, f, x.count(0) - 1);
        return f;
    }

    /** The curve that the amounts tell. */
    int made(int step, int gain, long... amounts) {
        x.drop();
        row(amounts);
        return came("curve(" + step + ", " + gain + ")", x.curve(step, gain));
    }

    int ray(int c) {
        return came("ray(" + c + ")", x.ray(c));
    }

    /** The same amount for all spans. */
    int flat(long amount) {
        return made(1, 0, amount);
    }

    /** 0, then b + c (t - 1). */
    int burst(long b, int c) {
        return made(1, c, 0, b);
    }

    /** 0 up to l, then c (t - l). */
    int late(int l, int c) {
        x.drop();
        again(l + 1);
        return came("curve(1, " + c + ")", x.curve(1, c));
    }

    /** c (t / d, cut). */
    int stair(int d, int c) {
        x.drop();
        again(d);
        return came("curve(" + d + ", " + c + ")", x.curve(d, c));
    }

    /** 0 below t, then v for ever: START is t. */
    int jump(int t, long v) {
        x.drop();
        again(t);
        x.put(v);
        return came("curve(1, 0)", x.curve(1, 0));
    }

    int of(int way, int f, int g) {
        return came("of(" + way + ", " + f + ", " + g + ")", x.of(way, f, g));
    }

    /** CURVES up to a number of them all. */
    void curvesUpTo(int n) {
        for (int i = x.count(0); i < n; i++) {
            x.ray(i);
        }
    }

    void come(int... amounts) {
        int n = x.count(2);
        for (int amount : amounts) {
            n++;
            tells("come(" + amount + ")", x.come(amount), n);
        }
    }

    void stepsUpTo(int n) {
        for (int i = x.count(2); i < n; i++) {
            x.come(1);
        }
    }
}
