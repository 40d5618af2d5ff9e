import java.util.ArrayList;

/**
 * Random runs of calls, each answered by FlowCurves and by a plain model that lays every curve out
 * over a long horizon, straight from the words of the document. The draws are fixed ones.
 */
public final class ModelTest {
    private static final int HORIZON = 1100;
    private static final int INNER = 700;
    private static long seed = 20261119L;
    private static int wrong = 0;
    private static long calls = 0;
    private static final long[] reasons = new long[6];
    private static final long[] ways = new long[6];

    public static void main(String[] args) {
        int objects = args.length > 0 ? Integer.parseInt(args[0]) : 200;
        for (int i = 0; i < objects && wrong < 20; i++) {
            runOne(i);
        }
        System.out.println("ModelTest: " + calls + " calls, " + wrong + " wrong"
            + "; made by way " + java.util.Arrays.toString(ways)
            + "; refusals 0, -1 .. -5 " + java.util.Arrays.toString(reasons));
        if (wrong != 0) {
            System.exit(1);
        }
    }

    private static int draw(int bound) {
        seed = seed * 6364136223846793005L + 1442695040888963407L;
        return (int) ((seed >>> 33) % bound);
    }

    private static int pick(int... of) {
        return of[draw(of.length)];
    }

    private static void runOne(int run) {
        FlowCurves real = new FlowCurves();
        Model model = new Model();
        int style = draw(5);
        StringBuilder log = new StringBuilder();
        int[] step = {0};
        while (step[0] < 512) {
            String call;
            int kind = draw(100);
            long[] got = new long[2];
            int n = model.curves.size();
            int f = draw(25) == 0 ? pick(-1, n, 60, Integer.MAX_VALUE, Integer.MIN_VALUE) : n == 0 ? 0 : draw(n);
            int g = draw(25) == 0 ? pick(-1, n, 60, Integer.MAX_VALUE, Integer.MIN_VALUE) : n == 0 ? 0 : draw(n);
            if (kind < 14) {
                rowCalls(real, model, style, log, step);
                continue;
            } else if (kind < 17) {
                int c = draw(style == 4 ? 2 : 9) == 0 ? pick(-1, 1000000001, 1000000000, 999999999, 500000000, 333333333, 0) : draw(6);
                call = "ray(" + c + ")";
                got[0] = real.ray(c); got[1] = model.ray(c);
            } else if (kind < 33) {
                int way = draw(20) == 0 ? pick(-1, 6, 100) : draw(6);
                call = "of(" + way + "," + f + "," + g + ")";
                got[0] = real.of(way, f, g); got[1] = model.of(way, f, g);
                if (got[0] >= 0) {
                    ways[way]++;
                }
            } else if (kind < 36) {
                int k = draw(5) == 0 ? pick(-1, 1001, 1000, 999) : draw(4);
                call = "times(" + f + "," + k + ")";
                got[0] = real.times(f, k); got[1] = model.times(f, k);
            } else if (kind < 40) {
                int k = draw(5) == 0 ? pick(-1, 201, 200, 199) : draw(40);
                call = "shift(" + f + "," + k + ")";
                got[0] = real.shift(f, k); got[1] = model.shift(f, k);
            } else if (kind < 44) {
                call = "undo()";
                got[0] = real.undo(); got[1] = model.undo();
            } else if (kind < 52) {
                int t = draw(6) == 0 ? pick(-1, 1000000000, 1000000001, 999999999) : draw(400);
                call = "at(" + f + "," + t + ")";
                got[0] = real.at(f, t); got[1] = model.at(f, t);
            } else if (kind < 58) {
                int what = draw(8) == 0 ? pick(-1, 5, 6) : draw(5);
                call = "about(" + f + "," + what + ")";
                got[0] = real.about(f, what); got[1] = model.about(f, what);
            } else if (kind < 60) {
                int what = draw(8) == 0 ? pick(-1, 2, 3) : draw(2);
                call = "rate(" + f + "," + what + ")";
                got[0] = real.rate(f, what); got[1] = model.rate(f, what);
            } else if (kind < 62) {
                call = "unlike(" + f + "," + g + ")";
                got[0] = real.unlike(f, g); got[1] = model.unlike(f, g);
            } else if (kind < 65) {
                call = "below(" + f + "," + g + ")";
                got[0] = real.below(f, g); got[1] = model.below(f, g);
            } else if (kind < 67) {
                long v = draw(6) == 0 ? pick(-1, 1000000000, 2000000000) * (long) pick(1, 1000, 1000000000)
                    : style == 4 && draw(2) == 0 ? draw(1000000000) * (long) draw(1000000000) : draw(1000);
                call = "first(" + f + "," + v + ")";
                got[0] = real.first(f, v); got[1] = model.first(f, v);
            } else if (kind < 70) {
                call = "heap(" + f + "," + g + ")";
                got[0] = real.heap(f, g); got[1] = model.heap(f, g);
            } else if (kind < 73) {
                call = "wait(" + f + "," + g + ")";
                got[0] = real.wait(f, g); got[1] = model.wait(f, g);
            } else if (kind < 78) {
                int a = draw(12) == 0 ? pick(-1, 1000000000, 1000000001) : draw(style == 3 ? 1000 : 12);
                call = "come(" + a + ")";
                got[0] = real.come(a); got[1] = model.come(a);
            } else if (kind < 81) {
                int k = draw(6) == 0 ? pick(-1, 61, 60, 0) : draw(40);
                call = "hardest(" + f + "," + k + ")";
                got[0] = real.hardest(f, k); got[1] = model.hardest(f, k);
            } else if (kind < 82) {
                call = "stop()";
                got[0] = real.stop(); got[1] = model.stop();
            } else if (kind < 84) {
                call = "serve(" + f + ")";
                got[0] = real.serve(f); got[1] = model.serve(f);
            } else if (kind < 88) {
                int side = draw(12) == 0 ? pick(-1, 3) : draw(3);
                int t = draw(6) == 0 ? pick(-1, 600, 601) : draw(80);
                call = "moved(" + side + "," + t + ")";
                got[0] = real.moved(side, t); got[1] = model.moved(side, t);
            } else if (kind < 91) {
                int t = draw(6) == 0 ? pick(-1, 60, 61) : draw(model.came.size() + 1);
                call = "late(" + t + ")";
                got[0] = real.late(t); got[1] = model.late(t);
            } else if (kind < 92) {
                call = "mostHeld()";
                got[0] = real.mostHeld(); got[1] = model.mostHeld();
            } else if (kind < 93) {
                call = "mostLate()";
                got[0] = real.mostLate(); got[1] = model.mostLate();
            } else if (kind < 95) {
                call = "keeps(" + f + ")";
                got[0] = real.keeps(f); got[1] = model.keeps(f);
            } else if (kind < 97) {
                int what = draw(7) - 1;
                call = "count(" + what + ")";
                got[0] = real.count(what); got[1] = model.count(what);
            } else if (kind < 99) {
                int b = draw(7) - 1;
                call = "trace(" + b + ")";
                got[0] = real.trace(b); got[1] = model.trace(b);
            } else if (draw(6) == 0) {
                call = "clear()";
                got[0] = real.clear(); got[1] = model.clear();
            } else {
                continue;
            }
            compare(run, call, got, real, model, log, step);
            if (wrong > 0) {
                return;
            }
        }
    }

    private static void rowCalls(FlowCurves real, Model model, int style, StringBuilder log, int[] step) {
        int kind = draw(10);
        long[] got = new long[2];
        String call;
        if (kind == 0) {
            call = "drop()";
            got[0] = real.drop(); got[1] = model.drop();
        } else if (kind == 1) {
            long v = draw(2) == 0 ? draw(20) : new long[] {-1L, 1000000000000L, 1000000000001L, Long.MAX_VALUE, Long.MIN_VALUE, 999999999999L}[draw(6)];
            call = "put(" + v + ")";
            got[0] = real.put(v); got[1] = model.put(v);
        } else if (kind == 2) {
            int n = pick(0, 301, 300, 299, 1, -5);
            int z = pick(-1, Integer.MIN_VALUE, Integer.MAX_VALUE, 0, 7);
            int most = pick(-1, 1000001, 1000000, 0, Integer.MAX_VALUE);
            call = "draw(" + n + "," + z + "," + most + ")";
            got[0] = real.draw(n, z, most); got[1] = model.draw(n, z, most);
        } else if (kind == 3) {
            int s = pick(0, 61, 60, 1, 3, 4);
            int c = pick(-1, 1000000001, 1000000000, 0, 5);
            call = "curve(" + s + "," + c + ")";
            got[0] = real.curve(s, c); got[1] = model.curve(s, c);
        } else {
            if (style == 4) {
                greatRow(real, model, log, step);
            } else {
                wholeRow(real, model, style, log, step);
            }
            return;
        }
        compare(-1, call, got, real, model, log, step);
    }

    /** A row made on purpose, and a curve from it. */
    private static void wholeRow(FlowCurves real, Model model, int style, StringBuilder log, int[] step) {
        long[] got = new long[2];
        got[0] = real.drop(); got[1] = model.drop();
        compare(-1, "drop()", got, real, model, log, step);
        if (draw(3) > 0) {
            long v = draw(3) == 0 ? draw(style == 2 ? 400 : 12) : 0;
            got[0] = real.put(v); got[1] = model.put(v);
            compare(-1, "put(" + v + ")", got, real, model, log, step);
        }
        int d = pick(1, 1, 1, 2, 2, 3, 4, 5, 6, 10, 12, 15, 20, 30, 60);
        if (draw(12) == 0) {
            d = pick(7, 8, 9, 11, 25, 59);
        }
        int transient0 = style == 0 ? draw(6) : style == 1 ? draw(40) : style == 2 ? draw(220) : 150 + draw(60);
        int n = Math.max(1, Math.min(300 - model.row.size(), d + transient0));
        int most = pick(0, 1, 1, 2, 3, 7);
        if (draw(3) == 0 && n > 4) {
            int zeros = draw(n - 2) + 1;
            got[0] = real.draw(zeros, 5, 0); got[1] = model.draw(zeros, 5, 0);
            compare(-1, "draw(" + zeros + ",5,0)", got, real, model, log, step);
            n -= zeros;
        }
        int z = draw(1000000);
        got[0] = real.draw(n, z, most); got[1] = model.draw(n, z, most);
        compare(-1, "draw(" + n + "," + z + "," + most + ")", got, real, model, log, step);
        if (d > model.row.size()) {
            d = model.row.size();
        }
        long wrap = model.row.get(model.row.size() - 1) - model.row.get(model.row.size() - d);
        int c = (int) Math.max(0, Math.min(1000000000L, wrap + draw(5) - (draw(6) == 0 ? 1 : 0)));
        got[0] = real.curve(d, c); got[1] = model.curve(d, c);
        compare(-1, "curve(" + d + "," + c + ")", got, real, model, log, step);
    }

    private static long rise() {
        switch (draw(10)) {
            case 0: return 1000000000L - draw(3);
            case 1: return draw(1000000000);
            case 2: return 500000000L;
            case 3: return draw(100) * 1000000000L;
            case 4: return draw(4);
            case 5: return 1;
            default: return 0;
        }
    }

    /** A row of AMOUNTS and a gain near their bounds, and a curve from it; every third row is even. */
    private static void greatRow(FlowCurves real, Model model, StringBuilder log, int[] step) {
        long[] got = new long[2];
        got[0] = real.drop(); got[1] = model.drop();
        compare(-1, "drop()", got, real, model, log, step);
        int d = pick(1, 1, 1, 2, 2, 3, 4, 5, 6, 10, 12, 15, 20, 30);
        if (draw(8) == 0) {
            int zeros = draw(195) + 1;
            got[0] = real.draw(zeros, 5, 0); got[1] = model.draw(zeros, 5, 0);
            compare(-1, "draw(" + zeros + ",5,0)", got, real, model, log, step);
        }
        boolean even = draw(3) == 0;
        long[] rises = new long[pick(1, 2, 3, 4, 5, 6)];
        for (int i = 0; i < rises.length; i++) {
            rises[i] = rise();
        }
        long v = draw(3) > 0 ? 0 : draw(2) == 0 ? rise() : 1000000000000L - draw(1000) * 1000000000L;
        int n = d + draw(6);
        for (int i = 0; i < n; i++) {
            got[0] = real.put(v); got[1] = model.put(v);
            compare(-1, "put(" + v + ")", got, real, model, log, step);
            v = Math.min(1000000000000L, v + (even ? rises[i % rises.length] : rise()));
        }
        long wrap = model.row.get(model.row.size() - 1) - model.row.get(model.row.size() - d);
        long gain = draw(4) == 0 ? 1000000000L - draw(3) : wrap + (even ? rises[draw(rises.length)] : rise());
        int c = (int) Math.min(1000000000L, gain);
        got[0] = real.curve(d, c); got[1] = model.curve(d, c);
        compare(-1, "curve(" + d + "," + c + ")", got, real, model, log, step);
    }

    private static void compare(int run, String call, long[] got, FlowCurves real, Model model, StringBuilder log, int[] step) {
        step[0]++;
        calls++;
        log.append(call).append(" = ").append(got[0]).append('\n');
        int status = real.status();
        if (-status >= 0 && -status < 6) {
            reasons[-status]++;
        }
        if (got[0] != got[1] || status != model.status) {
            wrong++;
            if (wrong == 1) {
                System.out.print(log);
                System.out.println("call " + step[0] + ": " + call + " answered " + got[0] + " (status "
                    + status + "), due is " + got[1] + " (" + model.status + ")");
            }
        }
    }

    /** A curve as a plain row: amounts below START + STEP, then it comes round. */
    private static final class Plain {
        int start, step;
        long gain;
        long[] amounts;

        long amount(long t) {
            if (t < amounts.length) {
                return amounts[(int) t];
            }
            long turns = (t - start) / step;
            return amounts[(int) (start + (t - start) % step)] + turns * gain;
        }

        long[] spread(int n) {
            long[] all = new long[n];
            for (int t = 0; t < n; t++) {
                all[t] = amount(t);
            }
            return all;
        }
    }

    private static final class Model {
        ArrayList<Plain> curves = new ArrayList<>();
        ArrayList<Long> row = new ArrayList<>();
        ArrayList<Integer> came = new ArrayList<>();
        int server = -1;
        boolean mayUndo = false;
        int status = 0;
        long[] traced = new long[5];

        private int no(int why) { status = why; return why; }
        private long noAmount(int why) { status = why; return -1; }
        private int yes(int answer) { status = 0; return answer; }
        private long yesAmount(long answer) { status = 0; return answer; }
        private Plain get(int f) { return f < 0 || f >= curves.size() ? null : curves.get(f); }

        int put(long v) {
            if (v < 0 || v > 1000000000000L) return no(-1);
            if (row.size() == 300) return no(-3);
            row.add(v);
            return yes(row.size());
        }

        int draw(int n, int z, int most) {
            if (n < 1 || n > 300 || most < 0 || most > 1000000) return no(-1);
            if (row.size() + n > 300) return no(-3);
            java.math.BigInteger at = java.math.BigInteger.valueOf(z);
            for (int i = 0; i < n; i++) {
                at = at.multiply(java.math.BigInteger.valueOf(1103515245L)).add(java.math.BigInteger.valueOf(12345))
                    .mod(java.math.BigInteger.ONE.shiftLeft(31));
                long last = row.isEmpty() ? 0 : row.get(row.size() - 1);
                row.add(last + (at.longValue() >> 8) % (most + 1));
            }
            return yes(row.size());
        }

        int drop() { int n = row.size(); row.clear(); return yes(n); }

        int curve(int step, int gain) {
            if (step < 1 || step > 60 || gain < 0 || gain > 1000000000) return no(-1);
            if (row.size() < step) return no(-2);
            for (int i = 1; i < row.size(); i++) if (row.get(i) < row.get(i - 1)) return no(-2);
            if (row.get(row.size() - step) + gain < row.get(row.size() - 1)) return no(-2);
            if (curves.size() == 60) return no(-3);
            long[] h = new long[HORIZON];
            for (int t = 0; t < HORIZON; t++) h[t] = t < row.size() ? row.get(t) : h[t - step] + gain;
            int made = make(h, gain, step);
            if (made >= 0) row.clear();
            return made;
        }

        int ray(int c) {
            if (c < 0 || c > 1000000000) return no(-1);
            if (curves.size() == 60) return no(-3);
            long[] h = new long[HORIZON];
            for (int t = 0; t < HORIZON; t++) h[t] = (long) c * t;
            return make(h, c, 1);
        }

        /** h must come round with rate up / lower, START 200 at most. */
        private int make(long[] h, long up, long lower) {
            for (int d = 1; d <= 60; d++) {
                long c = h[h.length - 1] - h[h.length - 1 - d];
                int start = h.length - d;
                while (start > 0 && h[start - 1 + d] - h[start - 1] == c) start--;
                if (start > 200) continue;
                if (c * lower != up * d) return no(-4);
                if (c > 1000000000L || h[start + d - 1] > 1000000000000L) return no(-4);
                Plain p = new Plain();
                p.start = start;
                p.step = d;
                p.gain = c;
                p.amounts = java.util.Arrays.copyOf(h, start + d);
                curves.add(p);
                mayUndo = true;
                return yes(curves.size() - 1);
            }
            return no(-4);
        }

        private static int gcd(int a, int b) { return b == 0 ? a : gcd(b, a % b); }
        private static int lcm(Plain a, Plain b) { return a.step / gcd(a.step, b.step) * b.step; }
        private static boolean faster(Plain a, Plain b) { return a.gain * b.step > b.gain * a.step; }

        int of(int way, int f, int g) {
            Plain a = get(f), b = get(g);
            if (way < 0 || way > 5 || a == null || b == null) return no(-1);
            if (curves.size() == 60) return no(-3);
            if (lcm(a, b) > 60) return no(-4);
            if (way == 5 && faster(a, b)) return no(-5);
            long[] x = a.spread(2 * HORIZON), y = b.spread(2 * HORIZON), h = new long[HORIZON];
            long lower = (long) a.step * b.step, up = 0, upA = a.gain * b.step, upB = b.gain * a.step;
            for (int t = 0; t < HORIZON; t++) {
                if (way == 0) { h[t] = x[t] + y[t]; up = upA + upB; }
                if (way == 1) { h[t] = Math.min(x[t], y[t]); up = Math.min(upA, upB); }
                if (way == 2) { h[t] = Math.max(x[t], y[t]); up = Math.max(upA, upB); }
                if (way == 3) { h[t] = Math.max(t == 0 ? 0 : h[t - 1], x[t] - y[t]); up = Math.max(0, upA - upB); }
                if (way == 4) {
                    h[t] = Long.MAX_VALUE;
                    for (int s = 0; s <= t; s++) h[t] = Math.min(h[t], x[s] + y[t - s]);
                    up = Math.min(upA, upB);
                }
                if (way == 5) {
                    for (int u = 0; u < INNER; u++) h[t] = Math.max(h[t], x[t + u] - y[u]);
                    up = upA;
                }
            }
            return make(h, up, lower);
        }

        int times(int f, int n) {
            Plain a = get(f);
            if (a == null || n < 0 || n > 1000) return no(-1);
            if (curves.size() == 60) return no(-3);
            long[] h = a.spread(HORIZON);
            for (int t = 0; t < HORIZON; t++) h[t] *= n;
            return make(h, a.gain * n, a.step);
        }

        int shift(int f, int n) {
            Plain a = get(f);
            if (a == null || n < 0 || n > 200) return no(-1);
            if (curves.size() == 60) return no(-3);
            long[] h = new long[HORIZON];
            for (int t = n; t < HORIZON; t++) h[t] = a.amount(t - n);
            return make(h, a.gain, a.step);
        }

        int undo() {
            if (!mayUndo) return no(-2);
            mayUndo = false;
            curves.remove(curves.size() - 1);
            if (server == curves.size()) server = -1;
            return yes(curves.size());
        }

        private int kind(Plain a) {
            long[] h = a.spread(INNER);
            boolean burst = h[0] == 0 && h[1] > h[2] - h[1], ray = true, stair = h[h.length - 1] > 0;
            int last = 0;
            while (last + 1 < h.length && h[last + 1] == 0) last++;
            boolean late = h[0] == 0 && last >= 1 && last < 300;
            long after = late ? h[last + 1] : 0;
            int d = last + 1;
            long stairGain = d < h.length ? h[d] : 0;
            for (int t = 0; t < h.length; t++) {
                if (t >= 1 && h[t] != h[1] + (h[2] - h[1]) * (t - 1)) burst = false;
                if (h[t] != h[1] * t) ray = false;
                if (t > last && h[t] != after * (t - last)) late = false;
                if (h[t] != stairGain * (t / d)) stair = false;
            }
            if (burst) return 1;
            if (ray) return 2;
            if (late) return 3;
            return stair && d >= 2 ? 4 : 0;
        }

        long at(int f, int t) {
            Plain a = get(f);
            if (a == null || t < 0 || t > 1000000000) return noAmount(-1);
            int kind = kind(a);
            traced[kind]++;
            if (kind == 1) traced[2]++;
            return yesAmount(a.amount(t));
        }

        private boolean closed(Plain a) {
            long[] h = a.spread(2 * 540);
            if (h[0] != 0) return false;
            for (int s = 0; s < 540; s++) for (int t = 0; t <= s; t++) if (h[s + t] > h[s] + h[t]) return false;
            return true;
        }

        int about(int f, int what) {
            Plain a = get(f);
            if (a == null || what < 0 || what > 4) return no(-1);
            if (what == 0) return yes(a.start);
            if (what == 1) return yes(a.step);
            if (what == 2) return yes((int) a.gain);
            if (what == 3) return yes(kind(a));
            return yes(closed(a) ? 1 : 0);
        }

        int rate(int f, int what) {
            Plain a = get(f);
            if (a == null || what < 0 || what > 1) return no(-1);
            int shared = gcd((int) a.gain, a.step);
            return yes(what == 0 ? (int) a.gain / shared : a.step / shared);
        }

        int unlike(int f, int g) {
            Plain a = get(f), b = get(g);
            if (a == null || b == null) { status = -1; return -2; }
            if (lcm(a, b) > 60) { status = -4; return -2; }
            for (int t = 0; t < INNER; t++) if (a.amount(t) != b.amount(t)) return yes(t);
            return yes(-1);
        }

        int below(int f, int g) {
            Plain a = get(f), b = get(g);
            if (a == null || b == null) return no(-1);
            if (lcm(a, b) > 60) return no(-4);
            if (faster(a, b)) return yes(0);
            for (int t = 0; t < INNER; t++) if (a.amount(t) > b.amount(t)) return yes(0);
            return yes(1);
        }

        int first(int f, long v) {
            Plain a = get(f);
            if (a == null || v < 0) return no(-1);
            for (int t = 0; t < INNER; t++) if (a.amount(t) >= v) return yes(t);
            if (a.amount(1000000000) < v) return no(-5);
            long low = 0, high = 1000000000;
            while (low < high) {
                long mid = (low + high) / 2;
                if (a.amount(mid) >= v) high = mid; else low = mid + 1;
            }
            return yes((int) low);
        }

        long heap(int f, int g) {
            Plain a = get(f), b = get(g);
            if (a == null || b == null) return noAmount(-1);
            if (lcm(a, b) > 60) return noAmount(-4);
            if (faster(a, b)) return noAmount(-5);
            long most = 0;
            for (int t = 0; t < INNER; t++) most = Math.max(most, a.amount(t) - b.amount(t));
            return yesAmount(most);
        }

        private static boolean waits(Plain a, Plain b, long w) {
            for (int t = 0; t < INNER; t++) if (a.amount(t) > b.amount(t + w)) return false;
            return true;
        }

        int wait(int f, int g) {
            Plain a = get(f), b = get(g);
            if (a == null || b == null) return no(-1);
            if (lcm(a, b) > 60) return no(-4);
            if (faster(a, b) || !waits(a, b, 1000000000)) return no(-5);
            long low = 0, high = 1000000000;
            while (low < high) {
                long mid = (low + high) / 2;
                if (waits(a, b, mid)) high = mid; else low = mid + 1;
            }
            return yes((int) low);
        }

        int come(int amount) {
            if (amount < 0 || amount > 1000000000) return no(-1);
            if (came.size() == 60) return no(-3);
            came.add(amount);
            return yes(came.size());
        }

        int hardest(int f, int n) {
            Plain a = get(f);
            if (a == null || n < 0 || n > 60) return no(-1);
            ArrayList<Integer> next = new ArrayList<>();
            for (int t = 1; t <= n; t++) {
                long amount = t == 1 ? a.amount(1) : a.amount(t) - a.amount(t - 1);
                if (amount > 1000000000) return no(-1);
                next.add((int) amount);
            }
            came = next;
            return yes(n);
        }

        int stop() { int n = came.size(); came.clear(); return yes(n); }

        int serve(int g) {
            if (get(g) == null) return no(-1);
            server = g;
            return yes(1);
        }

        private long a(int t) {
            long all = 0;
            for (int i = 0; i < t && i < came.size(); i++) all += came.get(i);
            return all;
        }

        private long[] arrived(int n) {
            long[] all = new long[n];
            for (int t = 0; t < n; t++) all[t] = a(t);
            return all;
        }

        private long[] passed(int n) {
            long[] arrived = arrived(n), g = get(server).spread(n), all = new long[n];
            for (int t = 0; t < n; t++) {
                all[t] = arrived[t];
                for (int s = 0; s <= t; s++) all[t] = Math.min(all[t], arrived[s] + g[t - s]);
            }
            return all;
        }

        long moved(int side, int t) {
            if (side < 0 || side > 2 || t < 0 || t > 600) return noAmount(-1);
            if (side == 0) return yesAmount(a(t));
            if (get(server) == null) return noAmount(-2);
            long b = passed(t + 1)[t];
            return yesAmount(side == 1 ? b : a(t) - b);
        }

        private int lateness(int t, long[] passed) {
            for (int w = 0; w <= 500; w++) if (passed[t + w] >= a(t)) return w;
            return -1;
        }

        int late(int t) {
            if (t < 0 || t > came.size()) return no(-1);
            if (get(server) == null) return no(-2);
            int w = lateness(t, passed(t + 501));
            return w < 0 ? no(-5) : yes(w);
        }

        long mostHeld() {
            if (get(server) == null) return noAmount(-2);
            long[] passed = passed(came.size() + 1);
            long most = 0;
            for (int t = 0; t <= came.size(); t++) most = Math.max(most, a(t) - passed[t]);
            return yesAmount(most);
        }

        int mostLate() {
            if (get(server) == null) return no(-2);
            long[] passed = passed(came.size() + 501);
            int most = 0;
            for (int t = 0; t <= came.size(); t++) {
                int w = lateness(t, passed);
                if (w < 0) return no(-5);
                most = Math.max(most, w);
            }
            return yes(most);
        }

        int keeps(int f) {
            Plain p = get(f);
            if (p == null) return no(-1);
            for (int t = 0; t <= came.size(); t++)
                for (int s = 0; s <= t; s++) if (a(t) - a(s) > p.amount(t - s)) return yes(0);
            return yes(1);
        }

        int count(int what) {
            if (what == 0) return curves.size();
            if (what == 1) return row.size();
            if (what == 2) return came.size();
            if (what == 3) return server;
            if (what == 4) return mayUndo ? 1 : 0;
            return -1;
        }

        int trace(int b) { return b < 0 || b > 4 ? -1 : (int) traced[b]; }

        int clear() {
            curves.clear();
            row.clear();
            came.clear();
            server = -1;
            mayUndo = false;
            return yes(1);
        }
    }
}
