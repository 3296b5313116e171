import java.util.ArrayList;
import java.util.List;

/**
 * The document once more, as slowly and plainly as it reads: full matrices, inverses by trying, nothing kept but what
 * was told. It shares no code and no short cut with FieldFilter, so that the two can be held against each other.
 */
final class PlainFilter {
    static final int P = 10007;

    static final class Told {
        int time;
        int h0;
        int h1;
        int z;
        int r;
        int gate;
        boolean dropped;
    }

    static final class Begun {
        long[][] f;
        long[][] q;
        long[][] x;
        long[][] p;
        int gate = 10006;
        int time;
        List<Told> told = new ArrayList<>();
    }

    /** All that a filter run from the beginning finds; refused if a measurement is not possible to take. */
    static final class Run {
        boolean refused;
        List<long[][]> predictedX = new ArrayList<>();
        List<long[][]> predictedP = new ArrayList<>();
        List<long[][]> x = new ArrayList<>();
        List<long[][]> p = new ArrayList<>();
        long[][] results;
    }

    final List<int[]> models = new ArrayList<>();
    final List<Begun> begun = new ArrayList<>();

    private static final int[] INVERSES = inverses();

    private static int[] inverses() {
        int[] found = new int[P];
        for (int a = 1; a < P; a++) {
            long multiple = 1;
            while (multiple % a != 0) {
                multiple += P;
            }
            found[a] = (int) (multiple / a);
        }
        return found;
    }

    static long mod(long a) {
        return (a % P + P) % P;
    }

    static long over(long a, long b) {
        return mod(a * INVERSES[(int) mod(b)]);
    }

    static long[][] times(long[][] a, long[][] b) {
        long[][] c = new long[a.length][b[0].length];
        for (int i = 0; i < a.length; i++) {
            for (int j = 0; j < b[0].length; j++) {
                for (int k = 0; k < b.length; k++) {
                    c[i][j] = mod(c[i][j] + a[i][k] * b[k][j]);
                }
            }
        }
        return c;
    }

    static long[][] plus(long[][] a, long[][] b, long factor) {
        long[][] c = new long[a.length][a[0].length];
        for (int i = 0; i < a.length; i++) {
            for (int j = 0; j < a[0].length; j++) {
                c[i][j] = mod(a[i][j] + mod(factor) * b[i][j]);
            }
        }
        return c;
    }

    static long[][] scaled(long[][] a, long factor) {
        return plus(new long[a.length][a[0].length], a, factor);
    }

    static long[][] turned(long[][] a) {
        long[][] c = new long[a[0].length][a.length];
        for (int i = 0; i < a.length; i++) {
            for (int j = 0; j < a[0].length; j++) {
                c[j][i] = a[i][j];
            }
        }
        return c;
    }

    static long det(long[][] a) {
        return mod(a[0][0] * a[1][1] - a[0][1] * a[1][0]);
    }

    /** Null if there is none. */
    static long[][] inverted(long[][] a) {
        long d = det(a);
        if (d == 0) {
            return null;
        }
        return new long[][] {{over(a[1][1], d), over(-a[0][1], d)}, {over(-a[1][0], d), over(a[0][0], d)}};
    }

    private static void field(int... values) {
        for (int value : values) {
            range(value, 10006);
        }
    }

    private static void range(int value, int highest) {
        if (value < 0 || value > highest) {
            throw new IllegalArgumentException();
        }
    }

    private Begun at(int estimator) {
        if (estimator < 0 || estimator >= begun.size()) {
            throw new IndexOutOfBoundsException();
        }
        return begun.get(estimator);
    }

    private static Told toldAt(Begun e, int measurement) {
        if (measurement < 0 || measurement >= e.told.size()) {
            throw new IndexOutOfBoundsException();
        }
        return e.told.get(measurement);
    }

    private int[] modelAt(int model) {
        if (model < 0 || model >= models.size()) {
            throw new IndexOutOfBoundsException();
        }
        return models.get(model);
    }

    private static long[][] predictP(Begun e, long[][] p) {
        return plus(times(times(e.f, p), turned(e.f)), e.q, 1);
    }

    private static Run run(Begun e) {
        Run run = new Run();
        run.results = new long[e.told.size()][];
        long[][] x = e.x;
        long[][] p = e.p;
        for (int t = 0; t <= e.time; t++) {
            if (t > 0) {
                x = times(e.f, x);
                p = predictP(e, p);
            }
            run.predictedX.add(x);
            run.predictedP.add(p);
            for (int m = 0; m < e.told.size(); m++) {
                Told told = e.told.get(m);
                if (told.time != t || told.dropped) {
                    continue;
                }
                long[][] h = {{told.h0, told.h1}};
                long y = mod(told.z - times(h, x)[0][0]);
                long s = mod(times(times(h, p), turned(h))[0][0] + told.r);
                if (s == 0) {
                    run.refused = true;
                    return run;
                }
                long g = over(y * y, s);
                boolean gated = g > told.gate;
                run.results[m] = new long[] {y, s, g, gated ? 1 : 0};
                if (!gated) {
                    long[][] k = scaled(times(p, turned(h)), over(1, s));
                    x = plus(x, k, y);
                    p = plus(p, times(times(k, h), p), -1);
                }
            }
            run.x.add(x);
            run.p.add(p);
        }
        return run;
    }

    int model() {
        if (models.size() == 6) {
            throw new IllegalStateException();
        }
        models.add(new int[] {1, 0, 0, 1, 0, 0, 0});
        return models.size() - 1;
    }

    int entry(int model, int entry, int value) {
        int[] entries = modelAt(model);
        range(entry, 6);
        field(value);
        int before = entries[entry];
        entries[entry] = value;
        return before;
    }

    int begin(int model, int x0, int x1, int p00, int p01, int p11) {
        int[] entries = modelAt(model);
        field(x0, x1, p00, p01, p11);
        if (begun.size() == 6) {
            throw new IllegalStateException();
        }
        Begun e = new Begun();
        e.f = new long[][] {{entries[0], entries[1]}, {entries[2], entries[3]}};
        e.q = new long[][] {{entries[4], entries[5]}, {entries[5], entries[6]}};
        e.x = new long[][] {{x0}, {x1}};
        e.p = new long[][] {{p00, p01}, {p01, p11}};
        begun.add(e);
        return begun.size() - 1;
    }

    int gate(int estimator, int gate) {
        Begun e = at(estimator);
        field(gate);
        int before = e.gate;
        e.gate = gate;
        return before;
    }

    int predict(int estimator) {
        Begun e = at(estimator);
        if (e.time == 20) {
            throw new IllegalStateException();
        }
        return ++e.time;
    }

    int measure(int estimator, int h0, int h1, int z, int r) {
        return late(estimator, at(estimator).time, h0, h1, z, r);
    }

    int late(int estimator, int time, int h0, int h1, int z, int r) {
        Begun e = at(estimator);
        range(time, e.time);
        field(h0, h1, z, r);
        if (e.told.size() == 30) {
            throw new IllegalStateException();
        }
        Told told = new Told();
        told.time = time;
        told.h0 = h0;
        told.h1 = h1;
        told.z = z;
        told.r = r;
        told.gate = e.gate;
        e.told.add(told);
        if (run(e).refused) {
            e.told.remove(e.told.size() - 1);
            throw new IllegalStateException();
        }
        return e.told.size() - 1;
    }

    void drop(int estimator, int measurement) {
        Begun e = at(estimator);
        Told told = toldAt(e, measurement);
        if (told.dropped) {
            throw new IllegalStateException();
        }
        told.dropped = true;
        if (run(e).refused) {
            told.dropped = false;
            throw new IllegalStateException();
        }
    }

    private static long pick(long[][] x, long[][] p, int what) {
        long[] all = {x[0][0], x[1][0], p[0][0], p[0][1], p[1][1]};
        if (p[0][1] != p[1][0]) {
            throw new AssertionError("not symmetric");
        }
        return all[what];
    }

    long of(int estimator, int what) {
        Begun e = at(estimator);
        range(what, 8);
        Run run = run(e);
        if (what == 5) {
            return e.time;
        }
        if (what == 6) {
            return e.told.size();
        }
        if (what == 7) {
            int count = 0;
            for (long[] result : run.results) {
                count += result != null && result[3] == 1 ? 1 : 0;
            }
            return count;
        }
        long[][] p = run.p.get(e.time);
        return what == 8 ? det(p) : pick(run.x.get(e.time), p, what);
    }

    long ofMeasurement(int estimator, int measurement, int what) {
        Begun e = at(estimator);
        Told told = toldAt(e, measurement);
        range(what, 4);
        if (what == 0) {
            return told.time;
        }
        return told.dropped ? -1 : run(e).results[measurement][what - 1];
    }

    long gain(int estimator, int h0, int h1, int r, int which) {
        Begun e = at(estimator);
        field(h0, h1, r);
        range(which, 1);
        long[][] p = run(e).p.get(e.time);
        long[][] h = {{h0, h1}};
        long s = mod(times(times(h, p), turned(h))[0][0] + r);
        if (s == 0) {
            throw new IllegalStateException();
        }
        return over(times(p, turned(h))[which][0], s);
    }

    private static long[][] needed(long[][] inverted) {
        if (inverted == null) {
            throw new IllegalStateException();
        }
        return inverted;
    }

    long information(int estimator, int what) {
        Begun e = at(estimator);
        range(what, 4);
        Run run = run(e);
        long[][] y = needed(inverted(run.p.get(e.time)));
        return pick(times(y, run.x.get(e.time)), y, what);
    }

    long anew(int estimator, int what) {
        Begun e = at(estimator);
        range(what, 4);
        Run run = run(e);
        long[][] y = needed(inverted(e.p));
        long[][] i = times(y, e.x);
        for (int t = 0; t <= e.time; t++) {
            if (t > 0) {
                long[][] p = needed(inverted(y));
                long[][] x = times(e.f, times(p, i));
                y = needed(inverted(predictP(e, p)));
                i = times(y, x);
            }
            for (int m = 0; m < e.told.size(); m++) {
                Told told = e.told.get(m);
                if (told.time != t || told.dropped || run.results[m][3] == 1) {
                    continue;
                }
                if (told.r == 0) {
                    throw new IllegalStateException();
                }
                long[][] h = {{told.h0, told.h1}};
                y = plus(y, times(turned(h), h), over(1, told.r));
                i = plus(i, turned(h), over(told.z, told.r));
            }
        }
        long[][] p = needed(inverted(y));
        return pick(times(p, i), p, what);
    }

    long smoothed(int estimator, int time, int which) {
        Begun e = at(estimator);
        range(time, e.time);
        range(which, 1);
        return smoothed(e, run(e), time)[which][0];
    }

    private static long[][] smoothed(Begun e, Run run, int t) {
        if (t == e.time) {
            return run.x.get(t);
        }
        long[][] c = times(times(run.p.get(t), turned(e.f)), needed(inverted(run.predictedP.get(t + 1))));
        return plus(run.x.get(t), times(c, plus(smoothed(e, run, t + 1), run.predictedX.get(t + 1), -1)), 1);
    }

    /** To predict is linear in x, P and 1 written in one column of seven: its power is what is far ahead. */
    long ahead(int estimator, int times, int what) {
        Begun e = at(estimator);
        range(times, 1000000000);
        range(what, 4);
        Run run = run(e);
        long[][] one = new long[7][7];
        one[6][6] = 1;
        for (int i = 0; i < 2; i++) {
            for (int j = 0; j < 2; j++) {
                one[i][j] = e.f[i][j];
                one[2 + 2 * i + j][6] = e.q[i][j];
                for (int k = 0; k < 2; k++) {
                    for (int l = 0; l < 2; l++) {
                        one[2 + 2 * i + j][2 + 2 * k + l] = mod(e.f[i][k] * e.f[j][l]);
                    }
                }
            }
        }
        long[][] x = run.x.get(e.time);
        long[][] p = run.p.get(e.time);
        long[][] now = {{x[0][0]}, {x[1][0]}, {p[0][0]}, {p[0][1]}, {p[1][0]}, {p[1][1]}, {1}};
        long[][] then = times(power(one, times), now);
        return then[what == 4 ? 5 : what][0];
    }

    private static long[][] power(long[][] one, int times) {
        if (times == 0) {
            long[][] unit = new long[7][7];
            for (int i = 0; i < 7; i++) {
                unit[i][i] = 1;
            }
            return unit;
        }
        long[][] half = power(one, times / 2);
        long[][] whole = times(half, half);
        return times % 2 == 1 ? times(whole, one) : whole;
    }

    long aheadAnew(int estimator, int times, int what) {
        Begun e = at(estimator);
        range(times, 200);
        range(what, 4);
        Run run = run(e);
        long[][] x = run.x.get(e.time);
        long[][] p = run.p.get(e.time);
        for (int step = 0; step < times; step++) {
            x = times(e.f, x);
            p = predictP(e, p);
        }
        return pick(x, p, what);
    }
}
