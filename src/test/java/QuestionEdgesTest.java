import java.math.BigInteger;
import java.util.Arrays;

/** The boundary cases of promises 10 to 17, a test for each sentence of the document that names one. */
public final class QuestionEdgesTest {
    private static final int M = Field.M;
    private static final int[] NO_NUMBERS = {-1, Integer.MIN_VALUE, Integer.MAX_VALUE};

    public static void main(String[] args) {
        Check.runPromises(QuestionEdgesTest.class, 10, 17);
    }

    private static Bench model(int... entries) {
        Bench f = new Bench();
        f.answers(0, "model");
        f.entries(0, entries);
        return f;
    }

    /** The model 0 at rest and so many estimators: x 4, 5 and P 2, 0, 3. With h 1, 0 S is 2 and r, and y z less 4. */
    private static Bench resting(int estimators) {
        Bench f = model();
        for (int estimator = 0; estimator < estimators; estimator++) {
            f.answers(estimator, "begin", 0, 4, 5, 2, 0, 3);
        }
        return f;
    }

    private static Bench resting() {
        return resting(1);
    }

    /** F 1, 1, 0, 1 and Q 1, 2, 3; at the time 1 x is 9, 5 and P 6, 5, 6. */
    private static Bench moving() {
        Bench f = model(1, 1, 0, 1, 1, 2, 3);
        f.answers(0, "begin", 0, 4, 5, 2, 0, 3);
        f.answers(1, "predict", 0);
        return f;
    }

    /** Something of everything: one that is GATED, one DROPPED, one late, and two that are like all others. */
    private static Bench lively() {
        Bench f = model(2, 3, 5, 7, 11, 13, 17);
        f.answers(0, "begin", 0, 4, 5, 2, 1, 3);
        f.answers(0, "measure", 0, 1, 2, 3, 4);
        f.answers(1, "predict", 0);
        f.answers(1, "measure", 0, 6, 5, 4, 3);
        f.answers(2, "predict", 0);
        f.does("gate", 0, 0);
        f.answers(2, "measure", 0, 9, 0, 1, 10006);
        f.does("gate", 0, 10006);
        f.answers(3, "late", 0, 1, 5, 5, 5, 5);
        f.answers(4, "late", 0, 0, 1, 1, 1, 1);
        f.does("drop", 0, 3);
        return f;
    }

    private static void predictTo(Bench f, int time) {
        for (int t = 1; t <= time; t++) {
            f.answers(t, "predict", 0);
        }
    }

    private static void noSuchEstimator(String name, int... others) {
        for (int count = 0; count <= 6; count += 2) {
            Bench f = resting(count);
            int[] arguments = new int[1 + others.length];
            System.arraycopy(others, 0, arguments, 1, others.length);
            for (int number : NO_NUMBERS) {
                arguments[0] = number;
                f.refuses(Bench.INDEX, name, arguments);
            }
            arguments[0] = count;
            f.refuses(Bench.INDEX, name, arguments);
            if (count > 0) {
                arguments[0] = count - 1;
                f.does(name, arguments);
            }
        }
    }

    /** The argument is refused next to its ends and far off, and answered at both. */
    private static void argumentAtItsEnds(Bench f, int argument, int highest, String name, int... arguments) {
        int[] asked = arguments.clone();
        for (int wrong : new int[] {-1, highest + 1, Integer.MIN_VALUE, Integer.MAX_VALUE}) {
            asked[argument] = wrong;
            f.refuses(Bench.ARGUMENT, name, asked);
        }
        for (int end : new int[] {0, highest}) {
            asked[argument] = end;
            f.does(name, asked);
            f.changesNothing(name, asked);
        }
    }

    /** No estimator is named ahead of arguments that are wrong, at every place. */
    private static void noEstimatorIsNamedFirst(Bench f, String name) {
        int[] arguments = new int[Calls.count(name)];
        for (int estimator : new int[] {-1, 1}) {
            for (int wrong : Field.OUTSIDE) {
                Arrays.fill(arguments, wrong);
                arguments[0] = estimator;
                f.refuses(Bench.INDEX, name, arguments);
            }
        }
    }

    /** What the five numbers of x and P are, asked in one way or another. */
    private static void five(Bench f, String name, int[] between, int... due) {
        for (int what = 0; what < 5; what++) {
            int[] arguments = new int[between.length + 2];
            System.arraycopy(between, 0, arguments, 1, between.length);
            arguments[arguments.length - 1] = what;
            f.answers(due[what], name, arguments);
        }
    }

    private static int[] now(Bench f) {
        int[] numbers = new int[5];
        for (int what = 0; what < 5; what++) {
            numbers[what] = f.does("of", 0, what);
        }
        return numbers;
    }

    private static void anewIsTheSame(Bench f) {
        five(f, "anew", new int[0], now(f));
    }

    private static void noneAnew(Bench f) {
        for (int what = 0; what < 5; what++) {
            f.refuses(Bench.STATE, "anew", 0, what);
        }
    }

    // ---- promise 10: of

    /** "what: 0 and 1 its x ... 8 the determinant of P"; "IllegalArgumentException if what is out of range". */
    static void promise10WhatAtItsEnds() {
        argumentAtItsEnds(resting(), 1, 8, "of", 0, 0);
        argumentAtItsEnds(lively(), 1, 8, "of", 0, 0);
        Bench f = resting();
        f.answers(4, "of", 0, 0);
        f.answers(6, "of", 0, 8);
    }

    /** "Throws IndexOutOfBoundsException if there is no such estimator." */
    static void promise10NoSuchEstimator() {
        noSuchEstimator("of", 0);
    }

    /** "If several apply, the one that is named first in the throws clause is thrown." */
    static void promise10NoEstimatorIsNamedFirst() {
        noEstimatorIsNamedFirst(resting(), "of");
    }

    /** "5 its time, 6 how many measurements were told, 7 how many of these are GATED": none, and as many as can be. */
    static void promise10CountsAtTheirEnds() {
        Bench f = resting();
        f.state(0, 4, 5, 2, 0, 3, 0, 0, 0);
        f.does("gate", 0, 0);
        for (int measurement = 0; measurement < 30; measurement++) {
            f.does("measure", 0, 0, 0, 7, 1);
        }
        predictTo(f, 20);
        f.state(0, 4, 5, 2, 0, 3, 20, 30, 30);
    }

    /** "How many of these are GATED and not DROPPED": those told count on, those GATED no longer. */
    static void promise10DroppedOnesAreNotGated() {
        Bench f = resting();
        f.does("gate", 0, 0);
        for (int measurement = 0; measurement < 3; measurement++) {
            f.does("measure", 0, 0, 0, 7, 1);
        }
        f.does("measure", 0, 0, 0, 0, 1);
        for (int dropped = 0; dropped < 3; dropped++) {
            f.answers(3 - dropped, "of", 0, 7);
            f.does("drop", 0, dropped);
            f.answers(4, "of", 0, 6);
        }
        f.answers(0, "of", 0, 7);
    }

    /** "8 the determinant of P", a number of the FIELD: 0, 1 and 10006, also where it would be below 0. */
    static void promise10DeterminantAtItsEnds() {
        int[][] cases = {{0, 0, 0, 0}, {4, 2, 1, 0}, {1, 0, 1, 1}, {0, 1, 0, M - 1}, {M - 1, 0, 1, M - 1},
            {M - 1, M - 1, M - 1, 0}, {0, M - 1, 0, M - 1}, {M - 1, 0, M - 1, 1}, {0, M - 1, M - 1, M - 1}};
        for (int[] one : cases) {
            Bench f = model();
            f.does("begin", 0, 0, 0, one[0], one[1], one[2]);
            f.answers(one[3], "of", 0, 8);
        }
    }

    /** "Questions change nothing." */
    static void promise10ChangesNothing() {
        Bench f = lively();
        for (int what = 0; what < 9; what++) {
            f.changesNothing("of", 0, what);
        }
    }

    // ---- promise 11: ofMeasurement

    /** "what: 0 its time, 1 y, 2 S, 3 g, 4 whether it is GATED"; "IllegalArgumentException if ... out of range". */
    static void promise11WhatAtItsEnds() {
        for (int measurement = 0; measurement < 5; measurement++) {
            argumentAtItsEnds(lively(), 2, 4, "ofMeasurement", 0, measurement, 0);
        }
    }

    /** "Throws IndexOutOfBoundsException if there is no such estimator." */
    static void promise11NoSuchEstimator() {
        for (int count = 0; count <= 6; count += 2) {
            Bench f = resting(count);
            for (int number : new int[] {-1, count, Integer.MIN_VALUE, Integer.MAX_VALUE}) {
                f.refuses(Bench.INDEX, "ofMeasurement", number, 0, 0);
            }
        }
    }

    /** "Throws IndexOutOfBoundsException if there is no such ... measurement": none, one, or thirty told. */
    static void promise11NoSuchMeasurement() {
        Bench f = resting(2);
        f.answers(0, "measure", 1, 1, 0, 10, M - 1);
        int told = 0;
        for (int count : new int[] {0, 1, 29, 30}) {
            while (told < count) {
                f.answers(told, "measure", 0, 0, 0, 7, 1);
                told++;
            }
            for (int number : new int[] {-1, count, 30, Integer.MIN_VALUE, Integer.MAX_VALUE}) {
                f.refuses(Bench.INDEX, "ofMeasurement", 0, number, 0);
            }
        }
        f.measurement(0, 29, 0, 7, 1, 49, 0);
    }

    /** "If several apply, the one that is named first in the throws clause is thrown." */
    static void promise11TheOneNamedFirst() {
        Bench f = resting();
        f.answers(0, "measure", 0, 1, 0, 10, M - 1);
        noEstimatorIsNamedFirst(f, "ofMeasurement");
        for (int what : new int[] {-1, 5}) {
            f.refuses(Bench.INDEX, "ofMeasurement", 0, 1, what);
            f.refuses(Bench.INDEX, "ofMeasurement", 0, -1, what);
            f.refuses(Bench.INDEX, "ofMeasurement", 1, 0, what);
        }
    }

    /** "Of one that is DROPPED 1 to 4 are NONE", and its time is what it was; also if it was GATED. */
    static void promise11OfADroppedOne() {
        Bench f = resting();
        predictTo(f, 2);
        f.does("gate", 0, 0);
        f.answers(0, "measure", 0, 1, 0, 10, M - 1);
        f.answers(1, "late", 0, 1, 0, 1, 5, M - 2);
        f.measurement(0, 0, 2, 6, 1, 36, 1);
        f.measurement(0, 1, 1, 0, 1, 0, 0);
        f.does("drop", 0, 0);
        f.does("drop", 0, 1);
        f.measurement(0, 0, 2, FieldFilter.NONE, FieldFilter.NONE, FieldFilter.NONE, FieldFilter.NONE);
        f.measurement(0, 1, 1, FieldFilter.NONE, FieldFilter.NONE, FieldFilter.NONE, FieldFilter.NONE);
        f.refuses(Bench.ARGUMENT, "ofMeasurement", 0, 0, -1);
        f.refuses(Bench.ARGUMENT, "ofMeasurement", 0, 0, 5);
    }

    /** "As they are by now, of one that is GATED as well": a late one and a drop find them anew. */
    static void promise11AsTheyAreByNow() {
        Bench f = resting();
        predictTo(f, 1);
        f.does("gate", 0, 0);
        f.answers(0, "measure", 0, 1, 0, 16, 3);
        f.does("gate", 0, 10006);
        f.measurement(0, 0, 1, 12, 5, Field.over(144, 5), 1);
        f.answers(1, "late", 0, 0, 1, 0, 10, M - 1);
        f.measurement(0, 0, 1, 0, 1, 0, 0);
        f.answers(2, "late", 0, 0, 1, 0, 17, 3);
        f.measurement(0, 0, 1, 2, M - 3, Field.over(4, M - 3), 1);
        f.does("drop", 0, 2);
        f.measurement(0, 0, 1, 0, 1, 0, 0);
        f.does("drop", 0, 1);
        f.measurement(0, 0, 1, 12, 5, Field.over(144, 5), 1);
    }

    /** Numbers of the FIELD at their ends: y, S and g of 0 (but S), 1 and 10006. */
    static void promise11NumbersAtTheirEnds() {
        // z, r; y, S, g
        int[][] cases = {{4, M - 1, 0, 1, 0}, {5, M - 1, 1, 1, 1}, {3, M - 1, M - 1, 1, 1}, {5, M - 3, 1, M - 1, M - 1},
            {3, M - 3, M - 1, M - 1, M - 1}, {4, M - 3, 0, M - 1, 0}};
        for (int[] one : cases) {
            Bench f = resting();
            f.answers(0, "measure", 0, 1, 0, one[0], one[1]);
            f.measurement(0, 0, 0, one[2], one[3], one[4], 0);
        }
    }

    /** "Questions change nothing." */
    static void promise11ChangesNothing() {
        Bench f = lively();
        for (int measurement = 0; measurement < 5; measurement++) {
            for (int what = 0; what < 5; what++) {
                f.changesNothing("ofMeasurement", 0, measurement, what);
            }
        }
    }

    // ---- promise 12: gain

    /** "which: 0 the upper one, 1 the lower one"; "IllegalArgumentException if another argument is out of range". */
    static void promise12WhichAtItsEnds() {
        argumentAtItsEnds(resting(), 4, 1, "gain", 0, 1, 1, M - 4, 0);
        Bench f = resting();
        f.answers(2, "gain", 0, 1, 1, M - 4, 0);
        f.answers(3, "gain", 0, 1, 1, M - 4, 1);
    }

    /** "Of the FIELD": h0, h1 and r at 0 and at 10006. */
    static void promise12EveryNumberAtItsEnds() {
        // h0, h1, r; the upper and the lower K
        int[][] cases = {{0, 1, M - 2, 0, 3}, {M - 1, 0, M - 1, M - 2, 0}, {1, 0, M - 1, 2, 0},
            {0, M - 1, M - 2, 0, M - 3}, {1, 0, 0, 1, 0}, {0, 1, 0, 0, 1}, {0, 0, 1, 0, 0}, {0, 0, M - 1, 0, 0},
            {M - 1, M - 1, M - 4, M - 2, M - 3}, {M - 1, M - 1, M - 6, 2, 3}};
        Bench f = resting();
        for (int[] one : cases) {
            f.answers(one[3], "gain", 0, one[0], one[1], one[2], 0);
            f.answers(one[4], "gain", 0, one[0], one[1], one[2], 1);
            f.changesNothing("gain", 0, one[0], one[1], one[2], 0);
        }
    }

    /** "Throws IllegalArgumentException if another argument is out of range." */
    static void promise12EveryNumberBeyondItsEnds() {
        resting().refusesOutside(1, "gain", 0, 1, 0, 9, 0);
    }

    /** "Throws IndexOutOfBoundsException if there is no such estimator." */
    static void promise12NoSuchEstimator() {
        noSuchEstimator("gain", 1, 0, 9, 0);
    }

    /** "Throws IllegalStateException if S is 0"; next to that it is 1, or 10006. */
    static void promise12WhereSIs0() {
        Bench f = resting();
        for (int which = 0; which < 2; which++) {
            f.refuses(Bench.STATE, "gain", 0, 1, 0, M - 2, which);
            f.refuses(Bench.STATE, "gain", 0, 1, 1, M - 5, which);
            f.refuses(Bench.STATE, "gain", 0, 0, 0, 0, which);
        }
        f.answers(2, "gain", 0, 1, 0, M - 1, 0);
        f.answers(M - 2, "gain", 0, 1, 0, M - 3, 0);
        Bench nothing = model();
        nothing.does("begin", 0, 0, 0, 0, 0, 0);
        nothing.refuses(Bench.STATE, "gain", 0, 1, 1, 0, 0);
        nothing.answers(0, "gain", 0, 1, 1, 1, 0);
    }

    /** "If several apply, the one that is named first in the throws clause is thrown." */
    static void promise12TheOneNamedFirst() {
        Bench f = resting();
        noEstimatorIsNamedFirst(f, "gain");
        f.refuses(Bench.INDEX, "gain", 1, 0, 0, 0, 0);
        for (int wrong : new int[] {-1, 2, M}) {
            f.refuses(Bench.ARGUMENT, "gain", 0, 0, 0, 0, wrong);
        }
        f.refuses(Bench.ARGUMENT, "gain", 0, M, 0, 0, 0);
        f.refuses(Bench.ARGUMENT, "gain", 0, 0, -1, 0, 0);
        f.refuses(Bench.ARGUMENT, "gain", 0, 0, 0, M, 0);
    }

    /** "Whether it would be GATED or not": every gate gives the same. */
    static void promise12WhateverTheGate() {
        for (int gate : new int[] {0, 1, 10005, 10006}) {
            Bench f = resting();
            f.does("gate", 0, gate);
            f.answers(2, "gain", 0, 1, 1, M - 4, 0);
            f.refuses(Bench.STATE, "gain", 0, 1, 0, M - 2, 0);
        }
    }

    /** "That a measurement would have now, behind all others of this time": also those that came late. */
    static void promise12BehindAllOthers() {
        Bench f = resting();
        f.answers(0, "measure", 0, 1, 0, 10, M - 1);
        f.answers(M - 2, "gain", 0, 1, 0, 3, 0);
        predictTo(f, 1);
        f.answers(M - 2, "gain", 0, 1, 0, 3, 0);
        f.answers(1, "measure", 0, 1, 0, 10, 3);
        f.answers(M - 6, "gain", 0, 1, 0, 7, 0);
        f.does("drop", 0, 1);
        f.does("drop", 0, 0);
        f.answers(2, "gain", 0, 1, 0, M - 1, 0);
    }

    /** All thirty told, and the time 20, are no hindrance, as none is told. */
    static void promise12WithAllThirty() {
        Bench f = resting();
        for (int measurement = 0; measurement < 30; measurement++) {
            f.does("measure", 0, 0, 0, 7, 1);
        }
        predictTo(f, 20);
        f.answers(2, "gain", 0, 1, 0, M - 1, 0);
        f.changesNothing("gain", 0, 1, 0, M - 1, 0);
    }

    /** "To divide by a number that is not 0 is to multiply by the one that makes 1 with it": by every one of them. */
    static void promise12DividesByEveryNumber() {
        Bench f = null;
        for (int s = 1; s < M; s++) {
            if (f == null || f.calls() >= 500) {
                f = model();
                f.does("begin", 0, 0, 0, 1, 0, 1);
            }
            long k = f.does("gain", 0, 1, 0, Field.mod(s - 1), 0);
            Check.that("1 divided by " + s + " was " + k, k * s % M == 1);
        }
    }

    /** "Questions change nothing." */
    static void promise12ChangesNothing() {
        Bench f = lively();
        f.changesNothing("gain", 0, 1, 2, 3, 0);
        f.changesNothing("gain", 0, 9, 9, 9, 1);
    }

    // ---- promise 13: information

    /** "what: 0 and 1 Y times x, 2 Y00, 3 Y01, 4 Y11"; "IllegalArgumentException if what is out of range". */
    static void promise13WhatAtItsEnds() {
        Bench f = model();
        f.does("begin", 0, 3, 4, 2, 1, 1);
        argumentAtItsEnds(f, 1, 4, "information", 0, 0);
        f.answers(M - 1, "information", 0, 0);
        f.answers(2, "information", 0, 4);
    }

    /** "Throws IndexOutOfBoundsException if there is no such estimator." */
    static void promise13NoSuchEstimator() {
        noSuchEstimator("information", 0);
    }

    /** "There is none, if P is not INVERTIBLE": "if its determinant is not 0". */
    static void promise13PNotInvertible() {
        int[][] singular = {{0, 0, 0}, {4, 2, 1}, {1, 0, 0}, {0, 0, 1}, {M - 1, M - 1, M - 1}, {M - 1, 1, M - 1}};
        for (int[] p : singular) {
            Bench f = model();
            f.does("begin", 0, 3, 4, p[0], p[1], p[2]);
            for (int what = 0; what < 5; what++) {
                f.refuses(Bench.STATE, "information", 0, what);
            }
        }
    }

    /** P of determinant 1, 10006 and 2, next to those that are not INVERTIBLE. */
    static void promise13PInvertible() {
        int[][] cases = {{1, 0, 1, 3, 4, 1, 0, 1}, {0, 1, 0, 4, 3, 0, 1, 0}, {0, M - 1, 0, M - 4, M - 3, 0, M - 1, 0},
            {M - 1, 0, M - 1, M - 3, M - 4, M - 1, 0, M - 1}, {1, 0, 2, 3, 2, 1, 0, 5004}};
        for (int[] one : cases) {
            Bench f = model();
            f.does("begin", 0, 3, 4, one[0], one[1], one[2]);
            five(f, "information", new int[0], one[3], one[4], one[5], one[6], one[7]);
        }
    }

    /** As P is now: none at first and then one, and the other way round. */
    static void promise13AsPIsNow() {
        Bench f = model(1, 0, 0, 1, 1, 0, 0);
        f.does("begin", 0, 3, 4, 0, 0, 1);
        f.refuses(Bench.STATE, "information", 0, 0);
        predictTo(f, 1);
        five(f, "information", new int[0], 3, 4, 1, 0, 1);
        f.answers(0, "measure", 0, 1, 0, 9, 0);
        f.refuses(Bench.STATE, "information", 0, 0);
        f.does("drop", 0, 0);
        five(f, "information", new int[0], 3, 4, 1, 0, 1);
    }

    /** "If several apply, the one that is named first in the throws clause is thrown." */
    static void promise13TheOneNamedFirst() {
        Bench f = model();
        f.does("begin", 0, 3, 4, 0, 0, 0);
        noEstimatorIsNamedFirst(f, "information");
        f.refuses(Bench.INDEX, "information", 1, 0);
        f.refuses(Bench.ARGUMENT, "information", 0, -1);
        f.refuses(Bench.ARGUMENT, "information", 0, 5);
        f.refuses(Bench.STATE, "information", 0, 4);
    }

    /** "Questions change nothing." */
    static void promise13ChangesNothing() {
        Bench f = lively();
        for (int what = 0; what < 5; what++) {
            f.changesNothing("information", 0, what);
        }
    }

    // ---- promise 14: anew

    /** "what: 0 and 1 its x, 2 P00, 3 P01, 4 P11"; "IllegalArgumentException if what is out of range". */
    static void promise14WhatAtItsEnds() {
        argumentAtItsEnds(lively(), 1, 4, "anew", 0, 0);
        anewIsTheSame(lively());
        Bench f = resting();
        f.answers(4, "anew", 0, 0);
        f.answers(3, "anew", 0, 4);
    }

    /** "Throws IndexOutOfBoundsException if there is no such estimator." */
    static void promise14NoSuchEstimator() {
        noSuchEstimator("anew", 0);
    }

    /** "If several apply, the one that is named first in the throws clause is thrown." */
    static void promise14TheOneNamedFirst() {
        Bench f = model();
        f.does("begin", 0, 3, 4, 0, 0, 0);
        noEstimatorIsNamedFirst(f, "anew");
        f.refuses(Bench.INDEX, "anew", 1, 0);
        f.refuses(Bench.ARGUMENT, "anew", 0, -1);
        f.refuses(Bench.ARGUMENT, "anew", 0, 5);
        noneAnew(f);
    }

    /** "Something that is inverted on that way": P with which it began, at once and later, whatever P is by then. */
    static void promise14PAtFirstNotInvertible() {
        for (int[] p : new int[][] {{0, 0, 0}, {0, 0, 1}, {4, 2, 1}, {M - 1, M - 1, M - 1}}) {
            Bench f = model(1, 0, 0, 1, 1, 0, 1);
            f.does("begin", 0, 3, 4, p[0], p[1], p[2]);
            noneAnew(f);
            predictTo(f, 1);
            Check.that("P is INVERTIBLE by now", f.does("of", 0, 8) != 0);
            noneAnew(f);
        }
    }

    /** "Something that is inverted on that way": P as it was predicted, at the end and in between. */
    static void promise14PPredictedNotInvertible() {
        Bench f = model(1, 0, 0, 1, 1, 0, 1);
        f.does("begin", 0, 3, 4, M - 2, 0, 1);
        anewIsTheSame(f);
        predictTo(f, 1);
        anewIsTheSame(f);
        f.answers(2, "predict", 0);
        f.answers(0, "of", 0, 8);
        noneAnew(f);
        f.answers(3, "predict", 0);
        f.answers(4, "of", 0, 8);
        noneAnew(f);
    }

    /** F may be not INVERTIBLE, or 0, as it is not inverted; P as it was predicted by it must be. */
    static void promise14FNotInvertible() {
        Bench f = model(0, 0, 0, 0, 5, 6, 7);
        f.does("begin", 0, 3, 4, 1, 0, 1);
        predictTo(f, 20);
        five(f, "anew", new int[0], 0, 0, 5, 6, 7);
        Bench g = model(1, 0, 0, 0, 0, 0, 0);
        g.does("begin", 0, 3, 4, 1, 0, 1);
        predictTo(g, 1);
        noneAnew(g);
    }

    /** "Or such an r is 0": at the time 0, in between and now; without it there is the way again. */
    static void promise14WhereRIs0() {
        for (int time : new int[] {0, 1, 2}) {
            Bench f = model(1, 1, 0, 1, 1, 2, 3);
            f.does("begin", 0, 4, 5, 2, 0, 3);
            predictTo(f, 2);
            f.answers(0, "late", 0, 1, 1, 1, 6, 1);
            anewIsTheSame(f);
            f.answers(1, "late", 0, time, 1, 0, 10, 0);
            noneAnew(f);
            f.does("drop", 0, 1);
            anewIsTheSame(f);
        }
    }

    /** "Such an r is 0", where y is 0 as well; next to that 1 and 10006 are as good as any. */
    static void promise14WhereRIsNext() {
        for (int r : new int[] {1, M - 1}) {
            Bench f = resting();
            f.answers(0, "measure", 0, 1, 0, 10, r);
            f.answers(1, "measure", 0, 0, 0, 10, r);
            f.answers(2, "measure", 0, 0, 1, 5, r);
            anewIsTheSame(f);
        }
        Bench f = resting();
        f.answers(0, "measure", 0, 0, 1, 5, 0);
        noneAnew(f);
    }

    /** "A measurement that is not GATED or DROPPED": the r of such a one may be 0, and its h adds nothing. */
    static void promise14GatedAndDroppedAreLeftOut() {
        Bench f = resting();
        f.does("gate", 0, 0);
        f.answers(0, "measure", 0, 1, 0, 10, 0);
        f.answers(1, "measure", 0, 1, 0, 10, 9);
        f.does("gate", 0, 10006);
        f.answers(2, "of", 0, 7);
        five(f, "anew", new int[0], 4, 5, 2, 0, 3);
        f.answers(2, "measure", 0, 0, 1, 10, 0);
        f.answers(3, "measure", 0, 1, 0, 10, M - 1);
        noneAnew(f);
        f.does("drop", 0, 2);
        five(f, "anew", new int[0], 16, 5, M - 2, 0, 3);
        f.does("drop", 0, 3);
        five(f, "anew", new int[0], 4, 5, 2, 0, 3);
    }

    /** "As the estimator has it": one that is GATED by now is left out, and comes in as soon as it is not. */
    static void promise14GatedAsTheEstimatorHasIt() {
        Bench f = resting();
        predictTo(f, 1);
        f.does("gate", 0, 0);
        f.answers(0, "measure", 0, 1, 0, 16, 0);
        f.does("gate", 0, 10006);
        five(f, "anew", new int[0], 4, 5, 2, 0, 3);
        f.answers(1, "late", 0, 0, 1, 0, 10, M - 1);
        f.answers(0, "of", 0, 7);
        noneAnew(f);
        f.does("drop", 0, 1);
        five(f, "anew", new int[0], 4, 5, 2, 0, 3);
    }

    /** Numbers of the FIELD at their highest: no product may run over on the way. */
    static void promise14AllAtTheirHighest() {
        Bench f = model(M - 1, M - 2, M - 3, M - 4, M - 1, M - 2, M - 3);
        f.does("begin", 0, M - 1, M - 2, M - 1, 0, M - 2);
        f.answers(0, "measure", 0, M - 1, M - 2, M - 1, M - 3);
        anewIsTheSame(f);
        predictTo(f, 1);
        f.answers(1, "measure", 0, M - 1, M - 1, M - 1, M - 1);
        f.answers(2, "late", 0, 0, M - 2, M - 1, M - 1, M - 2);
        anewIsTheSame(f);
    }

    /** All thirty, up to the time 20. */
    static void promise14AllThirtyToTheLastTime() {
        Bench f = model(2, 3, 5, 7, 11, 13, 17);
        f.does("begin", 0, 4, 5, 2, 1, 3);
        for (int measurement = 0; measurement < 30; measurement++) {
            if (measurement > 0 && measurement <= 20) {
                f.answers(measurement, "predict", 0);
            }
            f.answers(measurement, "measure", 0, 3 * measurement, 7, 100 + measurement, 1 + measurement);
        }
        anewIsTheSame(f);
    }

    /** "Questions change nothing." */
    static void promise14ChangesNothing() {
        Bench f = lively();
        for (int what = 0; what < 5; what++) {
            f.changesNothing("anew", 0, what);
        }
    }

    // ---- promise 15: smoothed

    /** "time: 0 to its time"; "IllegalArgumentException if time ... is out of range". */
    static void promise15TimeAtItsEnds() {
        argumentAtItsEnds(resting(), 1, 0, "smoothed", 0, 0, 0);
        argumentAtItsEnds(lively(), 1, 2, "smoothed", 0, 0, 0);
        Bench f = resting();
        predictTo(f, 20);
        argumentAtItsEnds(f, 1, 20, "smoothed", 0, 0, 1);
    }

    /** "which: 0 the upper one, 1 the lower one"; "IllegalArgumentException if ... which is out of range". */
    static void promise15WhichAtItsEnds() {
        argumentAtItsEnds(lively(), 2, 1, "smoothed", 0, 2, 0);
        argumentAtItsEnds(lively(), 2, 1, "smoothed", 0, 0, 0);
        Bench f = resting();
        f.answers(4, "smoothed", 0, 0, 0);
        f.answers(5, "smoothed", 0, 0, 1);
    }

    /** "Throws IndexOutOfBoundsException if there is no such estimator." */
    static void promise15NoSuchEstimator() {
        noSuchEstimator("smoothed", 0, 0);
    }

    /** "If several apply, the one that is named first in the throws clause is thrown." */
    static void promise15TheOneNamedFirst() {
        Bench f = model(0, 0, 0, 0, 0, 0, 0);
        f.does("begin", 0, 3, 4, 1, 0, 1);
        predictTo(f, 1);
        noEstimatorIsNamedFirst(f, "smoothed");
        f.refuses(Bench.INDEX, "smoothed", 1, 0, 0);
        f.refuses(Bench.ARGUMENT, "smoothed", 0, 0, -1);
        f.refuses(Bench.ARGUMENT, "smoothed", 0, 0, 2);
        f.refuses(Bench.ARGUMENT, "smoothed", 0, 2, 0);
        f.refuses(Bench.ARGUMENT, "smoothed", 0, -1, 0);
        f.refuses(Bench.STATE, "smoothed", 0, 0, 0);
        f.refuses(Bench.STATE, "smoothed", 0, 0, 1);
    }

    /** "At the time of the estimator the smoothed state is x": whatever P is, at the time 0 and later. */
    static void promise15AtTheTimeOfTheEstimator() {
        Bench f = model(0, 0, 0, 0, 0, 0, 0);
        f.does("begin", 0, 3, 4, 0, 0, 0);
        f.answers(3, "smoothed", 0, 0, 0);
        f.answers(4, "smoothed", 0, 0, 1);
        f.answers(0, "measure", 0, 1, 0, 10, 1);
        predictTo(f, 1);
        f.answers(0, "smoothed", 0, 1, 0);
        f.answers(0, "smoothed", 0, 1, 1);
        Bench g = resting();
        g.answers(0, "measure", 0, 1, 0, 10, M - 1);
        predictTo(g, 20);
        g.answers(1, "measure", 0, 0, 1, 6, M - 2);
        g.answers(16, "smoothed", 0, 20, 0);
        g.answers(8, "smoothed", 0, 20, 1);
    }

    /** "There is none, if one of these P, for t or later times, is not INVERTIBLE": for t itself, and for the last. */
    static void promise15PPredictedNotInvertible() {
        for (int at = 1; at <= 3; at++) {
            // P00 as it was predicted is 0 at this time alone, and P11 is 1 and more.
            Bench f = model(1, 0, 0, 1, 1, 0, 1);
            f.does("begin", 0, 3, 4, M - at, 0, 1);
            for (int now = 1; now <= 3; now++) {
                f.answers(now, "predict", 0);
                for (int t = 0; t <= now; t++) {
                    boolean none = t < at && at <= now;
                    for (int which = 0; which < 2; which++) {
                        if (none) {
                            f.refuses(Bench.STATE, "smoothed", 0, t, which);
                        } else {
                            f.answers(3 + which, "smoothed", 0, t, which);
                        }
                    }
                }
            }
        }
    }

    /** "For t or later times": a P that is not INVERTIBLE ahead of t in time does not matter. */
    static void promise15EarlierTimesDoNotMatter() {
        Bench f = model(1, 0, 0, 1, 1, 0, 1);
        f.does("begin", 0, 3, 4, M - 1, 0, 1);
        predictTo(f, 20);
        f.answers(0, "measure", 0, 1, 1, 10, 5);
        f.refuses(Bench.STATE, "smoothed", 0, 0, 0);
        for (int t = 1; t <= 20; t++) {
            f.does("smoothed", 0, t, 0);
        }
    }

    /** What is not inverted may be not INVERTIBLE: P behind the measurements, and P at the time 0. */
    static void promise15PThatIsNotInverted() {
        Bench f = model(1, 0, 0, 1, 1, 0, 1);
        f.does("begin", 0, 3, 4, 0, 0, 0);
        predictTo(f, 1);
        f.answers(0, "measure", 0, 1, 0, 9, 1);
        // C is 0 at the time 0, as P was 0.
        f.answers(3, "smoothed", 0, 0, 0);
        f.answers(4, "smoothed", 0, 0, 1);
        Bench g = model(1, 0, 0, 1, 1, 0, 1);
        g.does("begin", 0, 3, 4, 1, 0, 1);
        g.answers(0, "measure", 0, 1, 0, 9, 0);
        g.state(0, 9, 4, 0, 0, 1);
        predictTo(g, 1);
        // P at 1 is 1, 0, 2: with S 3 the lower y is 6, so x is 4 and 2 thirds of 6.
        g.answers(1, "measure", 0, 0, 1, 10, 1);
        g.state(0, 9, 8);
        g.answers(9, "smoothed", 0, 0, 0);
        g.answers(6, "smoothed", 0, 0, 1);
    }

    /** From the last time back to the first: without Q the smoothed state is the last one, through F inverted. */
    static void promise15FromTheLastTimeToTheFirst() {
        Bench f = model(1, 1, 0, 1, 0, 0, 0);
        f.does("begin", 0, 4, 5, 2, 0, 3);
        predictTo(f, 20);
        f.answers(0, "measure", 0, 1, 0, 7, 1);
        int x0 = f.does("of", 0, 0);
        int x1 = f.does("of", 0, 1);
        for (int t = 20; t >= 0; t--) {
            f.answers(Field.mod(x0 - (20L - t) * x1), "smoothed", 0, t, 0);
            f.answers(x1, "smoothed", 0, t, 1);
        }
    }

    /** "C being P behind the measurements of t": which is 0 above, so that nothing comes back from the time 1. */
    static void promise15PBehindTheMeasurements() {
        Bench f = model(1, 0, 0, 1, 1, 0, 1);
        f.does("begin", 0, 3, 4, 1, 0, 1);
        f.answers(0, "measure", 0, 1, 0, 9, 0);
        predictTo(f, 1);
        f.answers(1, "measure", 0, 1, 0, 11, 1);
        f.state(0, 10, 4);
        f.answers(9, "smoothed", 0, 0, 0);
        f.answers(4, "smoothed", 0, 0, 1);
    }

    /** Modulo 10007: where x and what is added to it make 10007 it is 0, and what is below 0 has 10007 more. */
    static void promise15RoundTheEndOfTheField() {
        Bench f = resting();
        predictTo(f, 1);
        f.answers(0, "measure", 0, 1, 0, 2, M - 1);
        f.answers(1, "measure", 0, 0, 1, 10, M - 6);
        f.state(0, 0, 0);
        f.answers(0, "smoothed", 0, 0, 0);
        f.answers(0, "smoothed", 0, 0, 1);
        // F is -1, -2, -3, -4; P is -1, 0, -1 and then -5, -11, -25, S -1 and K 16, 36, which is F times -4, -6.
        Bench g = model(M - 1, M - 2, M - 3, M - 4, 0, 0, 0);
        g.does("begin", 0, 0, 0, M - 1, 0, M - 1);
        predictTo(g, 1);
        g.answers(0, "measure", 0, 1, 1, 1, 51);
        g.state(0, 16, 36);
        g.answers(M - 4, "smoothed", 0, 0, 0);
        g.answers(M - 6, "smoothed", 0, 0, 1);
    }

    /** "Questions change nothing." */
    static void promise15ChangesNothing() {
        Bench f = lively();
        for (int t = 0; t <= 2; t++) {
            f.changesNothing("smoothed", 0, t, 0);
            f.changesNothing("smoothed", 0, t, 1);
        }
    }

    // ---- promise 16: ahead

    /** "times: 0 to 1000000000"; "IllegalArgumentException if times ... is out of range". */
    static void promise16TimesAtItsEnds() {
        argumentAtItsEnds(moving(), 1, 1000000000, "ahead", 0, 0, 3);
        Bench f = moving();
        five(f, "ahead", new int[] {0}, 9, 5, 6, 5, 6);
        five(f, "ahead", new int[] {1}, 14, 5, 23, 13, 9);
        int far = 1000000000;
        five(f, "ahead", new int[] {far}, farX0(far), 5, farP00(far), farP01(far), Field.mod(6 + 3L * far));
        far--;
        five(f, "ahead", new int[] {far}, farX0(far), 5, farP00(far), farP01(far), Field.mod(6 + 3L * far));
    }

    // With F 1, 1, 0, 1 and Q 1, 2, 3 x0 grows by 5 each time, P11 by 3, P01 by P11 and 2, P00 by P11, twice P01 and 1.

    private static int farX0(long times) {
        return Field.mod(9 + 5 * times);
    }

    private static long twoOf(long times) {
        return Field.mod(times * (times - 1) / 2);
    }

    private static int farP01(long times) {
        return Field.mod(5 + 8 * times + 3 * twoOf(times));
    }

    private static int farP00(long times) {
        // The third factor would run over a long ahead of the division.
        BigInteger n = BigInteger.valueOf(times);
        BigInteger triples = n.multiply(BigInteger.valueOf(times - 1)).multiply(BigInteger.valueOf(times - 2))
                .divide(BigInteger.valueOf(6));
        // 17 is 1, the first P11 and twice the first P01; P11 grows by 3, P01 by 8 and by 3 more each time.
        return Field.mod(6 + 17 * times + (3 + 2 * 8) * twoOf(times) + 2 * 3 * (long) Field.mod(triples));
    }

    /** "By doubling": at and next to every power of 2 up to the last. */
    static void promise16NextToPowersOfTwo() {
        for (int power = 1; power <= 29; power++) {
            Bench f = moving();
            for (int times = (1 << power) - 1; times <= (1 << power) + 1; times++) {
                five(f, "ahead", new int[] {times}, farX0(times), 5, farP00(times), farP01(times),
                        Field.mod(6 + 3L * times));
            }
        }
    }

    /** "what: 0 and 1 its x, 2 P00, 3 P01, 4 P11"; "IllegalArgumentException if ... what is out of range". */
    static void promise16WhatAtItsEnds() {
        argumentAtItsEnds(moving(), 2, 4, "ahead", 0, 0, 0);
        argumentAtItsEnds(moving(), 2, 4, "ahead", 0, 1000000000, 0);
    }

    /** "Throws IndexOutOfBoundsException if there is no such estimator." */
    static void promise16NoSuchEstimator() {
        noSuchEstimator("ahead", 0, 0);
        noSuchEstimator("ahead", 1000000000, 4);
    }

    /** "If several apply, the one that is named first in the throws clause is thrown." */
    static void promise16NoEstimatorIsNamedFirst() {
        noEstimatorIsNamedFirst(moving(), "ahead");
    }

    /** "What a number of the estimator would be behind predicting so many times from now": also beyond the time 20. */
    static void promise16BeyondTheTime20() {
        Bench f = moving();
        for (int time = 2; time <= 20; time++) {
            f.answers(time, "predict", 0);
        }
        f.refuses(Bench.STATE, "predict", 0);
        for (int times : new int[] {0, 1, 2, 200}) {
            five(f, "ahead", new int[] {times}, farX0(19 + times), 5, farP00(19 + times), farP01(19 + times),
                    Field.mod(6 + 3L * (19 + times)));
        }
        f.changesNothing("ahead", 0, 1000000000, 0);
    }

    /** "From now", behind the measurements; and as far as it goes with F that is 0, or turns in a circle. */
    static void promise16FromNow() {
        Bench f = resting();
        f.answers(0, "measure", 0, 1, 0, 10, M - 1);
        five(f, "ahead", new int[] {0}, 16, 5, M - 2, 0, 3);
        five(f, "ahead", new int[] {1000000000}, 16, 5, M - 2, 0, 3);
        Bench zero = model(0, 0, 0, 0, 5, 6, 7);
        zero.does("begin", 0, 3, 4, 1, 0, 1);
        five(zero, "ahead", new int[] {0}, 3, 4, 1, 0, 1);
        five(zero, "ahead", new int[] {1}, 0, 0, 5, 6, 7);
        five(zero, "ahead", new int[] {1000000000}, 0, 0, 5, 6, 7);
        Bench circle = model(0, 1, M - 1, 0, 0, 0, 0);
        circle.does("begin", 0, 3, 4, 1, 0, 2);
        five(circle, "ahead", new int[] {1}, 4, M - 3, 2, 0, 1);
        five(circle, "ahead", new int[] {999999999}, M - 4, 3, 2, 0, 1);
        five(circle, "ahead", new int[] {1000000000}, 3, 4, 1, 0, 2);
    }

    /** Every entry at its highest: no product may run over on the way. */
    static void promise16AllAtTheirHighest() {
        Bench f = model(M - 1, M - 1, M - 1, M - 1, M - 1, M - 1, M - 1);
        f.does("begin", 0, M - 1, M - 1, M - 1, M - 1, M - 1);
        five(f, "ahead", new int[] {1}, 2, 2, M - 5, M - 5, M - 5);
        five(f, "ahead", new int[] {2}, M - 4, M - 4, M - 21, M - 21, M - 21);
        // F takes both of x to -2 times it, and all of P to 4 times it less 1.
        int x = M - 1;
        int p = M - 1;
        for (int times = 0; times <= 64; times++) {
            five(f, "ahead", new int[] {times}, x, x, p, p, p);
            x = Field.mod(-2L * x);
            p = Field.mod(4L * p - 1);
        }
    }

    /** "Questions change nothing." */
    static void promise16ChangesNothing() {
        Bench f = lively();
        for (int what = 0; what < 5; what++) {
            f.changesNothing("ahead", 0, 7, what);
        }
    }

    // ---- promise 17: aheadAnew

    /** "times: 0 to 200"; "IllegalArgumentException if times ... is out of range". */
    static void promise17TimesAtItsEnds() {
        argumentAtItsEnds(moving(), 1, 200, "aheadAnew", 0, 0, 3);
        Bench f = moving();
        f.refuses(Bench.ARGUMENT, "aheadAnew", 0, 1000000000, 0);
        five(f, "aheadAnew", new int[] {0}, 9, 5, 6, 5, 6);
        for (int times : new int[] {1, 2, 199, 200}) {
            five(f, "aheadAnew", new int[] {times}, farX0(times), 5, farP00(times), farP01(times),
                    Field.mod(6 + 3L * times));
        }
    }

    /** "what: 0 and 1 its x, 2 P00, 3 P01, 4 P11"; "IllegalArgumentException if ... what is out of range". */
    static void promise17WhatAtItsEnds() {
        argumentAtItsEnds(moving(), 2, 4, "aheadAnew", 0, 0, 0);
        argumentAtItsEnds(moving(), 2, 4, "aheadAnew", 0, 200, 0);
    }

    /** "Throws IndexOutOfBoundsException if there is no such estimator." */
    static void promise17NoSuchEstimator() {
        noSuchEstimator("aheadAnew", 0, 0);
        noSuchEstimator("aheadAnew", 200, 4);
    }

    /** "If several apply, the one that is named first in the throws clause is thrown." */
    static void promise17NoEstimatorIsNamedFirst() {
        noEstimatorIsNamedFirst(moving(), "aheadAnew");
    }

    /** "Returns the same": for every number of times there is. */
    static void promise17TheSame() {
        Bench f = model(2, 3, 5, 7, 11, 13, 17);
        f.does("begin", 0, 4, 5, 2, 1, 3);
        f.answers(0, "measure", 0, 1, 2, 3, 4);
        for (int what = 0; what < 5; what++) {
            Bench one = f.again();
            for (int times = 0; times <= 200; times++) {
                one.answers(one.does("ahead", 0, times, what), "aheadAnew", 0, times, what);
            }
        }
    }

    /** "The same", one by one: at the time 20 as well, and all entries at their highest. */
    static void promise17BeyondTheTime20() {
        Bench f = moving();
        for (int time = 2; time <= 20; time++) {
            f.answers(time, "predict", 0);
        }
        for (int times : new int[] {0, 1, 200}) {
            five(f, "aheadAnew", new int[] {times}, farX0(19 + times), 5, farP00(19 + times), farP01(19 + times),
                    Field.mod(6 + 3L * (19 + times)));
        }
        f.changesNothing("aheadAnew", 0, 200, 0);
        Bench highest = model(M - 1, M - 1, M - 1, M - 1, M - 1, M - 1, M - 1);
        highest.does("begin", 0, M - 1, M - 1, M - 1, M - 1, M - 1);
        int x = M - 1;
        int p = M - 1;
        for (int times = 0; times <= 64; times++) {
            five(highest, "aheadAnew", new int[] {times}, x, x, p, p, p);
            x = Field.mod(-2L * x);
            p = Field.mod(4L * p - 1);
        }
    }

    /** "Questions change nothing." */
    static void promise17ChangesNothing() {
        Bench f = lively();
        for (int what = 0; what < 5; what++) {
            f.changesNothing("aheadAnew", 0, 7, what);
        }
    }
}
