/** Estimators over the numbers modulo a prime, where no form of the filter rounds and so all must agree. */
public final class FieldFilter {
    public static final int NONE = -1;
    public static final int F00 = 0, F01 = 1, F10 = 2, F11 = 3, Q00 = 4, Q01 = 5, Q11 = 6;

    private static final int PRIME = 10007;
    private static final int HIGHEST = PRIME - 1;
    private static final int MOST_MODELS = 6;
    private static final int MOST_ESTIMATORS = 6;
    private static final int MOST_MEASUREMENTS = 30;
    private static final int LAST_TIME = 20;
    private static final int MOST_AHEAD = 1000000000;
    private static final int MOST_AHEAD_ANEW = 200;

    private final int[][] models;
    private int modelCount;
    private final Estimator[] estimators;
    private int estimatorCount;

    public FieldFilter() {
        models = new int[MOST_MODELS][Q11 + 1];
        estimators = new Estimator[MOST_ESTIMATORS];
    }

    // ---- models

    public int model() throws IllegalStateException {
        if (modelCount >= MOST_MODELS) {
            throw new IllegalStateException("there are 6 models");
        }
        models[modelCount][F00] = 1;
        models[modelCount][F11] = 1;
        modelCount++;
        return modelCount - 1;
    }

    public int entry(int model, int entry, int value) throws IndexOutOfBoundsException, IllegalArgumentException {
        int[] entries = modelNumbered(model);
        checkRange(entry, Q11);
        checkField(value);
        int before = entries[entry];
        entries[entry] = value;
        return before;
    }

    // ---- estimators

    public int begin(int model, int x0, int x1, int p00, int p01, int p11)
            throws IndexOutOfBoundsException, IllegalArgumentException, IllegalStateException {
        int[] entries = modelNumbered(model);
        checkField(x0);
        checkField(x1);
        checkField(p00);
        checkField(p01);
        checkField(p11);
        if (estimatorCount >= MOST_ESTIMATORS) {
            throw new IllegalStateException("there are 6 estimators");
        }
        Estimator fresh = new Estimator(entries);
        fresh.startFrom(x0, x1, p00, p01, p11);
        estimators[estimatorCount] = fresh;
        estimatorCount++;
        return estimatorCount - 1;
    }

    public int gate(int estimator, int gate) throws IndexOutOfBoundsException, IllegalArgumentException {
        Estimator asked = estimatorNumbered(estimator);
        checkField(gate);
        int before = asked.threshold;
        asked.threshold = gate;
        return before;
    }

    public int predict(int estimator) throws IndexOutOfBoundsException, IllegalStateException {
        Estimator asked = estimatorNumbered(estimator);
        if (asked.time >= LAST_TIME) {
            throw new IllegalStateException("the time is 20");
        }
        asked.time++;
        asked.settle();
        return asked.time;
    }

    public int measure(int estimator, int h0, int h1, int z, int r)
            throws IndexOutOfBoundsException, IllegalArgumentException, IllegalStateException {
        Estimator asked = estimatorNumbered(estimator);
        return tell(asked, asked.time, h0, h1, z, r);
    }

    public int late(int estimator, int time, int h0, int h1, int z, int r)
            throws IndexOutOfBoundsException, IllegalArgumentException, IllegalStateException {
        Estimator asked = estimatorNumbered(estimator);
        checkRange(time, asked.time);
        return tell(asked, time, h0, h1, z, r);
    }

    public void drop(int estimator, int measurement) throws IndexOutOfBoundsException, IllegalStateException {
        Estimator asked = estimatorNumbered(estimator);
        Measurement dropped = measurementNumbered(asked, measurement);
        if (dropped.dropped) {
            throw new IllegalStateException("it is dropped");
        }
        dropped.dropped = true;
        if (!asked.settle()) {
            dropped.dropped = false;
            asked.settle();
            throw new IllegalStateException("refused");
        }
    }

    // ---- what is asked

    public int of(int estimator, int what) throws IndexOutOfBoundsException, IllegalArgumentException {
        Estimator asked = estimatorNumbered(estimator);
        checkRange(what, 8);
        switch (what) {
            case 5: return asked.time;
            case 6: return asked.toldCount;
            case 7: return asked.countGated();
            case 8: return asked.current().p.determinant();
            default: return asked.current().number(what);
        }
    }

    public int ofMeasurement(int estimator, int measurement, int what)
            throws IndexOutOfBoundsException, IllegalArgumentException {
        Estimator asked = estimatorNumbered(estimator);
        Measurement found = measurementNumbered(asked, measurement);
        checkRange(what, 4);
        if (what == 0) {
            return found.time;
        }
        if (found.dropped) {
            return NONE;
        }
        switch (what) {
            case 1: return found.y;
            case 2: return found.s;
            case 3: return found.g;
            default: return found.gated ? 1 : 0;
        }
    }

    public int gain(int estimator, int h0, int h1, int r, int which)
            throws IndexOutOfBoundsException, IllegalArgumentException, IllegalStateException {
        Estimator asked = estimatorNumbered(estimator);
        checkField(h0);
        checkField(h1);
        checkField(r);
        checkRange(which, 1);
        Measurement supposed = new Measurement();
        supposed.look(h0, h1, 0, r);
        supposed.weigh(asked.current().p);
        if (supposed.s == 0) {
            throw new IllegalStateException("S is 0");
        }
        return divide(supposed.ph.number(which), supposed.s);
    }

    public int information(int estimator, int what)
            throws IndexOutOfBoundsException, IllegalArgumentException, IllegalStateException {
        Estimator asked = estimatorNumbered(estimator);
        checkRange(what, 4);
        State form = new State();
        if (!form.invert(asked.current())) {
            throw new IllegalStateException("P is not invertible");
        }
        return form.number(what);
    }

    public int anew(int estimator, int what)
            throws IndexOutOfBoundsException, IllegalArgumentException, IllegalStateException {
        Estimator asked = estimatorNumbered(estimator);
        checkRange(what, 4);
        State found = new State();
        if (!asked.findSecondWay(found)) {
            throw new IllegalStateException("there is no second way");
        }
        return found.number(what);
    }

    public int smoothed(int estimator, int time, int which)
            throws IndexOutOfBoundsException, IllegalArgumentException, IllegalStateException {
        Estimator asked = estimatorNumbered(estimator);
        checkRange(time, asked.time);
        checkRange(which, 1);
        Column x = new Column();
        if (!asked.smoothBack(time, x)) {
            throw new IllegalStateException("a predicted P is not invertible");
        }
        return x.number(which);
    }

    public int ahead(int estimator, int times, int what) throws IndexOutOfBoundsException, IllegalArgumentException {
        Estimator asked = estimatorNumbered(estimator);
        checkRange(times, MOST_AHEAD);
        checkRange(what, 4);
        State state = new State();
        state.copy(asked.current());
        Motion stride = new Motion();
        stride.copy(asked.motion);
        // Strides of one motion may be taken in any order, so the lowest bit can go first.
        for (int rest = times; rest > 0; rest >>= 1) {
            if ((rest & 1) == 1) {
                stride.move(state);
            }
            stride.twice();
        }
        return state.number(what);
    }

    public int aheadAnew(int estimator, int times, int what)
            throws IndexOutOfBoundsException, IllegalArgumentException {
        Estimator asked = estimatorNumbered(estimator);
        checkRange(times, MOST_AHEAD_ANEW);
        checkRange(what, 4);
        State state = new State();
        state.copy(asked.current());
        for (int step = 0; step < times; step++) {
            asked.motion.move(state);
        }
        return state.number(what);
    }

    // ---- what the calls share

    private int[] modelNumbered(int number) {
        if (number < 0 || number >= modelCount) {
            throw new IndexOutOfBoundsException("no such model");
        }
        return models[number];
    }

    private Estimator estimatorNumbered(int number) {
        if (number < 0 || number >= estimatorCount) {
            throw new IndexOutOfBoundsException("no such estimator");
        }
        return estimators[number];
    }

    private static Measurement measurementNumbered(Estimator asked, int number) {
        if (number < 0 || number >= asked.toldCount) {
            throw new IndexOutOfBoundsException("no such measurement");
        }
        return asked.told[number];
    }

    private static void checkRange(int value, int highest) {
        if (value < 0 || value > highest) {
            throw new IllegalArgumentException("an argument is out of its range");
        }
    }

    private static void checkField(int value) {
        checkRange(value, HIGHEST);
    }

    private static int tell(Estimator asked, int time, int h0, int h1, int z, int r) {
        checkField(h0);
        checkField(h1);
        checkField(z);
        checkField(r);
        if (asked.toldCount >= MOST_MEASUREMENTS) {
            throw new IllegalStateException("there are 30 measurements");
        }
        Measurement next = asked.told[asked.toldCount];
        next.look(h0, h1, z, r);
        next.place(time, asked.threshold);
        asked.toldCount++;
        if (!asked.settle()) {
            asked.toldCount--;
            asked.settle();
            throw new IllegalStateException("refused");
        }
        return asked.toldCount - 1;
    }

    // ---- numbers of the FIELD: a sum of up to twenty products of two stays an int

    private static int less(int a, int b) {
        return Math.floorMod(a - b, PRIME);
    }

    /** By Fermat's little theorem; 0, which has no inverse, answers 0, and every caller has tested for it. */
    private static int inverse(int a) {
        int result = 1;
        int power = a;
        for (int rest = PRIME - 2; rest > 0; rest >>= 1) {
            if ((rest & 1) == 1) {
                result = result * power % PRIME;
            }
            power = power * power % PRIME;
        }
        return result;
    }

    private static int divide(int a, int b) {
        return a * inverse(b) % PRIME;
    }

    /** Two numbers, one above the other. */
    private static final class Column {
        int upper;
        int lower;

        void set(int newUpper, int newLower) {
            upper = newUpper;
            lower = newLower;
        }

        void copy(Column other) {
            set(other.upper, other.lower);
        }

        int number(int which) {
            return which == 0 ? upper : lower;
        }

        void add(Column other) {
            set((upper + other.upper) % PRIME, (lower + other.lower) % PRIME);
        }

        void subtract(Column other) {
            set(less(upper, other.upper), less(lower, other.lower));
        }
    }

    /** Two rows and two columns with the same number twice beside the diagonal. */
    private static final class Symmetric {
        int a00;
        int a01;
        int a11;

        void set(int new00, int new01, int new11) {
            a00 = new00;
            a01 = new01;
            a11 = new11;
        }

        void copy(Symmetric other) {
            set(other.a00, other.a01, other.a11);
        }

        int determinant() {
            return less(a00 * a11, a01 * a01);
        }

        /** Becomes the other inverted, or stays as it is and answers false. */
        boolean invert(Symmetric other) {
            int determinant = other.determinant();
            if (determinant == 0) {
                return false;
            }
            int factor = inverse(determinant);
            set(other.a11 * factor % PRIME, less(0, other.a01 * factor), other.a00 * factor % PRIME);
            return true;
        }

        /** The column becomes this times the column. */
        void multiply(Column column) {
            column.set((a00 * column.upper + a01 * column.lower) % PRIME,
                    (a01 * column.upper + a11 * column.lower) % PRIME);
        }

        /** Adds the column times the column turned over, times the factor. */
        void addSquare(Column column, int factor) {
            int upper = column.upper * factor % PRIME;
            int lower = column.lower * factor % PRIME;
            set((a00 + upper * column.upper) % PRIME, (a01 + upper * column.lower) % PRIME,
                    (a11 + lower * column.lower) % PRIME);
        }
    }

    /** A state x with its covariance P; in the information form Y times x with Y. */
    private static final class State {
        final Column x = new Column();
        final Symmetric p = new Symmetric();

        void copy(State other) {
            x.copy(other.x);
            p.copy(other.p);
        }

        int number(int what) {
            switch (what) {
                case 0: return x.upper;
                case 1: return x.lower;
                case 2: return p.a00;
                case 3: return p.a01;
                default: return p.a11;
            }
        }

        /** Goes from one form to the other, which is the same both ways; false if there is none. */
        boolean invert(State other) {
            if (!p.invert(other.p)) {
                return false;
            }
            x.copy(other.x);
            p.multiply(x);
            return true;
        }
    }

    /** F and Q of a model as it was when an estimator began, or of many of its steps in one. */
    private static final class Motion {
        int f00;
        int f01;
        int f10;
        int f11;
        final Symmetric q = new Symmetric();

        void read(int[] entries) {
            setF(entries[F00], entries[F01], entries[F10], entries[F11]);
            q.set(entries[Q00], entries[Q01], entries[Q11]);
        }

        void setF(int new00, int new01, int new10, int new11) {
            f00 = new00;
            f01 = new01;
            f10 = new10;
            f11 = new11;
        }

        void copy(Motion other) {
            setF(other.f00, other.f01, other.f10, other.f11);
            q.copy(other.q);
        }

        void move(State state) {
            Column x = state.x;
            x.set((f00 * x.upper + f01 * x.lower) % PRIME, (f10 * x.upper + f11 * x.lower) % PRIME);
            spread(state.p);
        }

        /** P may be this motion's own Q: all of it is read before any of it is set. */
        void spread(Symmetric p) {
            int m00 = (f00 * p.a00 + f01 * p.a01) % PRIME;
            int m01 = (f00 * p.a01 + f01 * p.a11) % PRIME;
            int m10 = (f10 * p.a00 + f11 * p.a01) % PRIME;
            int m11 = (f10 * p.a01 + f11 * p.a11) % PRIME;
            p.set((m00 * f00 + m01 * f01 + q.a00) % PRIME, (m00 * f10 + m01 * f11 + q.a01) % PRIME,
                    (m10 * f10 + m11 * f11 + q.a11) % PRIME);
        }

        void turnBack(Column x) {
            x.set((f00 * x.upper + f10 * x.lower) % PRIME, (f01 * x.upper + f11 * x.lower) % PRIME);
        }

        void twice() {
            // Q first: it is spread by the F of a single stride.
            spread(q);
            int cross = f01 * f10 % PRIME;
            int trace = (f00 + f11) % PRIME;
            setF((f00 * f00 + cross) % PRIME, f01 * trace % PRIME, f10 * trace % PRIME, (f11 * f11 + cross) % PRIME);
        }
    }

    private static final class Measurement {
        final Column h = new Column();
        int z;
        int r;
        int time;
        int threshold;
        boolean dropped;

        // What came of it when the estimator was last settled.
        final Column ph = new Column();
        int y;
        int s;
        int g;
        boolean gated;

        void look(int h0, int h1, int newZ, int newR) {
            h.set(h0, h1);
            z = newZ;
            r = newR;
        }

        void place(int newTime, int newThreshold) {
            time = newTime;
            threshold = newThreshold;
        }

        boolean countsAt(int t) {
            return time == t && !dropped;
        }

        /** Finds P times h turned over, and S. */
        void weigh(Symmetric p) {
            ph.copy(h);
            p.multiply(ph);
            s = (h.upper * ph.upper + h.lower * ph.lower + r) % PRIME;
        }

        /** False, and the state stays as it is, if it is not possible to take. */
        boolean take(State state) {
            weigh(state.p);
            if (s == 0) {
                return false;
            }
            y = less(z, (h.upper * state.x.upper + h.lower * state.x.lower) % PRIME);
            g = divide(y * y % PRIME, s);
            gated = g > threshold;
            if (!gated) {
                correct(state);
            }
            return true;
        }

        void correct(State state) {
            int factor = inverse(s);
            int share = y * factor % PRIME;
            Column x = state.x;
            x.set((x.upper + ph.upper * share) % PRIME, (x.lower + ph.lower * share) % PRIME);
            // h times P is P times h turned over, lying down, as P is symmetric.
            state.p.addSquare(ph, less(0, factor));
        }

        /** Adds to the information form; false if r is 0. */
        boolean inform(State form) {
            if (r == 0) {
                return false;
            }
            int factor = inverse(r);
            int share = z * factor % PRIME;
            Column i = form.x;
            form.p.addSquare(h, factor);
            i.set((i.upper + h.upper * share) % PRIME, (i.lower + h.lower * share) % PRIME);
            return true;
        }
    }

    /** What it was told, and what follows of that at every time, found anew at each change. */
    private static final class Estimator {
        final Motion motion = new Motion();
        final Measurement[] told = new Measurement[MOST_MEASUREMENTS];
        int toldCount;
        int time;
        int threshold = HIGHEST;

        /** By times, ahead of the measurements; at the time 0 it is what the estimator began with. */
        final State[] predicted = new State[LAST_TIME + 1];
        /** By times, behind the measurements. */
        final State[] behind = new State[LAST_TIME + 1];

        Estimator(int[] entries) {
            motion.read(entries);
            for (int m = 0; m < MOST_MEASUREMENTS; m++) {
                told[m] = new Measurement();
            }
            for (int t = 0; t <= LAST_TIME; t++) {
                predicted[t] = new State();
                behind[t] = new State();
            }
        }

        void startFrom(int x0, int x1, int p00, int p01, int p11) {
            predicted[0].x.set(x0, x1);
            predicted[0].p.set(p00, p01, p11);
            settle();
        }

        State current() {
            return behind[time];
        }

        int countGated() {
            int count = 0;
            for (int m = 0; m < toldCount; m++) {
                if (told[m].gated && !told[m].dropped) {
                    count++;
                }
            }
            return count;
        }

        /** False if a measurement is not possible to take: then the caller takes its change back and settles again. */
        boolean settle() {
            for (int t = 0; t <= time; t++) {
                if (t > 0) {
                    predicted[t].copy(behind[t - 1]);
                    motion.move(predicted[t]);
                }
                behind[t].copy(predicted[t]);
                for (int m = 0; m < toldCount; m++) {
                    if (told[m].countsAt(t) && !told[m].take(behind[t])) {
                        return false;
                    }
                }
            }
            return true;
        }

        /** False if there is none, and then what is found means nothing. */
        boolean findSecondWay(State found) {
            State form = new State();
            if (!form.invert(predicted[0])) {
                return false;
            }
            for (int t = 0; t <= time; t++) {
                if (t > 0 && !predictSecondWay(form, found)) {
                    return false;
                }
                if (!informAll(t, form)) {
                    return false;
                }
            }
            return found.invert(form);
        }

        boolean predictSecondWay(State form, State between) {
            if (!between.invert(form)) {
                return false;
            }
            motion.move(between);
            return form.invert(between);
        }

        boolean informAll(int t, State form) {
            for (int m = 0; m < toldCount; m++) {
                if (told[m].countsAt(t) && !told[m].gated && !told[m].inform(form)) {
                    return false;
                }
            }
            return true;
        }

        /** False if there is none, and then x means nothing. */
        boolean smoothBack(int back, Column x) {
            Symmetric inverted = new Symmetric();
            x.copy(current().x);
            for (int t = time - 1; t >= back; t--) {
                if (!inverted.invert(predicted[t + 1].p)) {
                    return false;
                }
                x.subtract(predicted[t + 1].x);
                // C from its right end on, which spares the products of matrices.
                inverted.multiply(x);
                motion.turnBack(x);
                behind[t].p.multiply(x);
                x.add(behind[t].x);
            }
            return true;
        }
    }
}
