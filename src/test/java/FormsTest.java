import java.util.ArrayList;
import java.util.Collections;
import java.util.List;
import java.util.Random;

/**
 * The document's first line: all forms agree exactly. The states of all times are one great column here, with the
 * covariance that they have ahead of any measurement, and all measurements are taken at once: what the column is then
 * must be what the filter finds step by step, smoothing backward, and by the second way.
 */
public final class FormsTest {
    private static final int M = Field.M;
    private static final int RUNS = 300;
    /** How often each form was there to be compared, so that none drops out unseen. */
    private static int smoothings;
    private static int secondWays;
    private static int otherOrders;

    private static final class Told {
        final int time;
        final int[] numbers;
        boolean dropped;
        boolean gated;

        Told(int time, int... numbers) {
            this.time = time;
            this.numbers = numbers;
        }
    }

    private final String run;
    private final Random random;
    private final int[] entries = new int[7];
    private final int[] start = new int[5];
    private final List<Told> all = new ArrayList<>();
    private final FieldFilter filter;
    private int now;

    private FormsTest(int seed) {
        run = "run " + seed + ": ";
        random = new Random(seed);
        for (int entry = 0; entry < entries.length; entry++) {
            entries[entry] = random.nextInt(M);
        }
        for (int number = 0; number < start.length; number++) {
            start[number] = random.nextInt(M);
        }
        filter = begun();
    }

    public static void main(String[] args) {
        for (int seed = 0; seed < RUNS; seed++) {
            FormsTest test = new FormsTest(seed);
            boolean gates = seed % 3 == 0;
            test.tellAll(gates);
            test.takenAtOnce();
            test.information();
            test.ahead();
            if (!gates) {
                test.inAnotherOrder();
            }
        }
        Check.that("there were " + smoothings + " smoothed states", smoothings > 10 * RUNS);
        Check.that("there was a second way " + secondWays + " times", secondWays > RUNS * 9 / 10);
        Check.that("there was another order " + otherOrders + " times", otherOrders > RUNS / 2);
        Check.close("FormsTest");
    }

    private FieldFilter begun() {
        FieldFilter f = new FieldFilter();
        f.model();
        for (int entry = 0; entry < entries.length; entry++) {
            f.entry(0, entry, entries[entry]);
        }
        f.begin(0, start[0], start[1], start[2], start[3], start[4]);
        return f;
    }

    private void tellAll(boolean gates) {
        int calls = 1 + random.nextInt(45);
        for (int call = 0; call < calls; call++) {
            int kind = random.nextInt(10);
            if (kind < 4 && now < 20) {
                now = filter.predict(0);
            } else if (kind == 4 && !all.isEmpty()) {
                drop(random.nextInt(all.size()));
            } else if (all.size() < 30) {
                if (gates) {
                    filter.gate(0, 5000 + random.nextInt(5007));
                }
                tell();
            }
        }
        for (int m = 0; m < all.size(); m++) {
            all.get(m).gated = !all.get(m).dropped && filter.ofMeasurement(0, m, 4) == 1;
        }
    }

    private void tell() {
        Told next = new Told(random.nextInt(now + 1), random.nextInt(M), random.nextInt(M), random.nextInt(M),
                1 + random.nextInt(M - 1));
        if (late(filter, next)) {
            all.add(next);
        }
    }

    private static boolean late(FieldFilter f, Told told) {
        int[] n = told.numbers;
        return !Check.outcome(() -> f.late(0, told.time, n[0], n[1], n[2], n[3])).startsWith("throws.");
    }

    private void drop(int measurement) {
        if (Check.outcome(() -> Calls.ask(filter, "drop", 0, measurement)).equals("0")) {
            all.get(measurement).dropped = true;
        }
    }

    // ---- all at once

    private void takenAtOnce() {
        List<Told> taken = new ArrayList<>();
        for (Told told : all) {
            if (!told.dropped && !told.gated) {
                taken.add(told);
            }
        }
        long[][] mean = new long[2 * now + 2][1];
        long[][] covariance = new long[2 * now + 2][2 * now + 2];
        fillAhead(mean, covariance);
        long[][] h = new long[taken.size()][2 * now + 2];
        long[][] z = new long[taken.size()][1];
        for (int m = 0; m < h.length; m++) {
            h[m][2 * taken.get(m).time] = taken.get(m).numbers[0];
            h[m][2 * taken.get(m).time + 1] = taken.get(m).numbers[1];
            z[m][0] = taken.get(m).numbers[2];
        }
        if (h.length > 0) {
            long[][] back = PlainFilter.times(covariance, PlainFilter.turned(h));
            long[][] noisy = PlainFilter.times(h, back);
            for (int m = 0; m < h.length; m++) {
                noisy[m][m] += taken.get(m).numbers[3];
            }
            long[][] gain = PlainFilter.times(back, inverted(noisy));
            long[][] y = PlainFilter.plus(z, PlainFilter.times(h, mean), -1);
            mean = PlainFilter.plus(mean, PlainFilter.times(gain, y), 1);
            covariance = PlainFilter.plus(covariance, PlainFilter.times(gain, PlainFilter.turned(back)), -1);
        }
        compare(mean, covariance);
    }

    /** The state of t and that of a later time have the P of t, times F turned over so often as it is later. */
    private void fillAhead(long[][] mean, long[][] covariance) {
        long[][] f = {{entries[0], entries[1]}, {entries[2], entries[3]}};
        long[][] q = {{entries[4], entries[5]}, {entries[5], entries[6]}};
        long[][] x = {{start[0]}, {start[1]}};
        long[][] p = {{start[2], start[3]}, {start[3], start[4]}};
        for (int t = 0; t <= now; t++) {
            long[][] shared = p;
            for (int later = t; later <= now; later++) {
                for (int i = 0; i < 2; i++) {
                    mean[2 * t + i][0] = x[i][0];
                    for (int j = 0; j < 2; j++) {
                        covariance[2 * t + i][2 * later + j] = shared[i][j];
                        covariance[2 * later + j][2 * t + i] = shared[i][j];
                    }
                }
                shared = PlainFilter.times(shared, PlainFilter.turned(f));
            }
            x = PlainFilter.times(f, x);
            p = PlainFilter.plus(PlainFilter.times(PlainFilter.times(f, p), PlainFilter.turned(f)), q, 1);
        }
    }

    /** Row by row; the S that the filter met, none of which is 0, make the determinant together. */
    private static long[][] inverted(long[][] matrix) {
        int n = matrix.length;
        long[][] rows = new long[n][2 * n];
        for (int i = 0; i < n; i++) {
            System.arraycopy(matrix[i], 0, rows[i], 0, n);
            rows[i][n + i] = 1;
        }
        for (int column = 0; column < n; column++) {
            int pivot = column;
            while (PlainFilter.mod(rows[pivot][column]) == 0) {
                pivot++;
            }
            long[] row = rows[pivot];
            rows[pivot] = rows[column];
            long factor = PlainFilter.over(1, row[column]);
            for (int j = 0; j < 2 * n; j++) {
                row[j] = PlainFilter.mod(row[j] * factor);
            }
            rows[column] = row;
            for (int i = 0; i < n; i++) {
                long times = i == column ? 0 : rows[i][column];
                for (int j = 0; j < 2 * n; j++) {
                    rows[i][j] = PlainFilter.mod(rows[i][j] - times * row[j]);
                }
            }
        }
        long[][] found = new long[n][n];
        for (int i = 0; i < n; i++) {
            System.arraycopy(rows[i], n, found[i], 0, n);
        }
        return found;
    }

    private void compare(long[][] mean, long[][] covariance) {
        int last = 2 * now;
        long[] due = {mean[last][0], mean[last + 1][0], covariance[last][last], covariance[last][last + 1],
            covariance[last + 1][last + 1]};
        for (int what = 0; what < 5; what++) {
            same("of", due[what], what);
            if (thereIs("anew", what)) {
                secondWays += what == 0 ? 1 : 0;
                same("anew", due[what], what);
            }
        }
        for (int t = 0; t <= now; t++) {
            for (int which = 0; which < 2; which++) {
                if (thereIs("smoothed", t, which)) {
                    smoothings++;
                    same("smoothed", mean[2 * t + which][0], t, which);
                }
            }
        }
    }

    private int[] ofEstimator0(int... behind) {
        int[] arguments = new int[behind.length + 1];
        System.arraycopy(behind, 0, arguments, 1, behind.length);
        return arguments;
    }

    private boolean thereIs(String name, int... behind) {
        return !Check.outcome(() -> Calls.ask(filter, name, ofEstimator0(behind))).startsWith("throws.");
    }

    private void same(String name, long due, int... behind) {
        Check.answers(run + name, due, () -> Calls.ask(filter, name, ofEstimator0(behind)));
    }

    // ---- the other forms

    /** Y times P is 1, 0, 0, 1, and Y times x is what is said to be that. */
    private void information() {
        if (!thereIs("information", 0)) {
            Check.that(run + "P is INVERTIBLE", filter.of(0, 8) == 0);
            return;
        }
        long[][] y = {{filter.information(0, 2), filter.information(0, 3)},
            {filter.information(0, 3), filter.information(0, 4)}};
        long[][] p = {{filter.of(0, 2), filter.of(0, 3)}, {filter.of(0, 3), filter.of(0, 4)}};
        long[][] x = {{filter.of(0, 0)}, {filter.of(0, 1)}};
        long[][] unit = PlainFilter.times(y, p);
        Check.that(run + "Y times P", unit[0][0] == 1 && unit[0][1] == 0 && unit[1][0] == 0 && unit[1][1] == 1);
        long[][] i = PlainFilter.times(y, x);
        same("information", i[0][0], 0);
        same("information", i[1][0], 1);
    }

    /** What is ahead now must be found by predicting, too. */
    private void ahead() {
        int times = 20 - now;
        int[] found = new int[5];
        for (int what = 0; what < 5; what++) {
            found[what] = filter.ahead(0, times, what);
            same("aheadAnew", found[what], times, what);
        }
        for (int time = now + 1; time <= 20; time++) {
            filter.predict(0);
        }
        for (int what = 0; what < 5; what++) {
            same("of", found[what], what);
        }
    }

    /** Another filter is told the same in another order, all of it late, and nothing of what is DROPPED. */
    private void inAnotherOrder() {
        FieldFilter other = begun();
        for (int time = 1; time <= 20; time++) {
            other.predict(0);
        }
        List<Told> shuffled = new ArrayList<>(all);
        Collections.shuffle(shuffled, random);
        for (Told told : shuffled) {
            if (!told.dropped && !late(other, told)) {
                return;
            }
        }
        otherOrders++;
        for (int what = 0; what < 5; what++) {
            same("of", other.of(0, what), what);
        }
        for (int t = 0; t <= 20; t++) {
            int asked = t;
            String smoothed = Check.outcome(() -> other.smoothed(0, asked, 0));
            Check.that(run + "smoothed at " + t, smoothed.equals(Check.outcome(() -> filter.smoothed(0, asked, 0))));
        }
    }
}
