/** The boundary cases of promises 7 to 9, a test for each sentence of the document that names one. */
public final class MeasurementEdgesTest {
    private static final int M = Field.M;
    private static final int[] NO_NUMBERS = {-1, Integer.MIN_VALUE, Integer.MAX_VALUE};

    public static void main(String[] args) {
        Check.runPromises(MeasurementEdgesTest.class, 7, 9);
    }

    /** The model 0 at rest and so many estimators: x 4, 5 and P 2, 0, 3. With h 1, 0 S is 2 and r, and y z less 4. */
    private static Bench resting(int estimators) {
        Bench f = new Bench();
        f.answers(0, "model");
        for (int estimator = 0; estimator < estimators; estimator++) {
            f.answers(estimator, "begin", 0, 4, 5, 2, 0, 3);
        }
        return f;
    }

    private static Bench resting() {
        return resting(1);
    }

    private static void predictTo(Bench f, int time) {
        for (int t = 1; t <= time; t++) {
            f.answers(t, "predict", 0);
        }
    }

    /** Thirty that change neither x nor P, as h is 0, 0; S is 1 and up, and y is 7. */
    private static void tellThirty(Bench f) {
        for (int measurement = 0; measurement < 30; measurement++) {
            f.answers(measurement, "measure", 0, 0, 0, 7, 1 + measurement);
        }
    }

    private static void noSuchEstimator(String name, int... others) {
        for (int count = 0; count <= 6; count += 2) {
            Bench f = resting(count);
            int[] arguments = new int[1 + others.length];
            System.arraycopy(others, 0, arguments, 1, others.length);
            for (int number : NO_NUMBERS) {
                arguments[0] = number;
                f.refuses(Bench.INDEX, name, arguments);
            }
            arguments[0] = count;
            f.refuses(Bench.INDEX, name, arguments);
            if (count > 0) {
                arguments[0] = count - 1;
                f.answers(0, name, arguments);
            }
        }
    }

    // ---- promise 7: measure

    /** "Numbered from 0, as they are told, at most 30"; "Throws IllegalStateException if there are 30". */
    static void promise7ThirtyAndNoMore() {
        Bench f = resting(2);
        tellThirty(f);
        f.answers(30, "of", 0, 6);
        f.refuses(Bench.STATE, "measure", 0, 0, 0, 0, 1);
        f.refuses(Bench.STATE, "measure", 0, 1, 0, 10, M - 1);
        f.refuses(Bench.INDEX, "ofMeasurement", 0, 30, 0);
        f.measurement(0, 0, 0, 7, 1, 49, 0);
        f.measurement(0, 29, 0, 7, 30, Field.over(49, 30), 0);
        f.state(0, 4, 5, 2, 0, 3, 0, 30, 0);
        f.answers(0, "measure", 1, 1, 0, 10, M - 1);
    }

    /** Thirty over several times are thirty too, and at the last time as well. */
    static void promise7ThirtyOverAllTimes() {
        Bench f = resting();
        for (int time = 0; time <= 20; time++) {
            if (time > 0) {
                f.answers(time, "predict", 0);
            }
            f.answers(time, "measure", 0, 0, 0, 7, 1);
        }
        for (int measurement = 21; measurement < 30; measurement++) {
            f.answers(measurement, "late", 0, measurement - 21, 0, 0, 7, 1);
        }
        f.refuses(Bench.STATE, "measure", 0, 0, 0, 7, 1);
        f.answers(20, "ofMeasurement", 0, 20, 0);
        f.answers(8, "ofMeasurement", 0, 29, 0);
    }

    /** One that is DROPPED, or GATED, was told: it counts among the thirty. */
    static void promise7DroppedAndGatedCountToo() {
        Bench f = resting();
        f.answers(10006, "gate", 0, 0);
        tellThirty(f);
        f.answers(30, "of", 0, 7);
        f.refuses(Bench.STATE, "measure", 0, 0, 0, 0, 1);
        for (int measurement = 0; measurement < 30; measurement++) {
            f.does("drop", 0, measurement);
        }
        f.refuses(Bench.STATE, "measure", 0, 0, 0, 0, 1);
        f.state(0, 4, 5, 2, 0, 3, 0, 30, 0);
    }

    /** "Of the FIELD": every argument at 0 and at 10006. */
    static void promise7EveryNumberAtItsEnds() {
        // Numbers: h0, h1, z, r; then y and S, which follow from x 4, 5 and P 2, 0, 3.
        int[][] cases = {{0, 1, 8, 5, 3, 8}, {M - 1, 1, 8, 5, 7, 10}, {1, 0, 8, 5, 4, 7}, {1, M - 1, 8, 5, 9, 10},
            {1, 1, 0, 5, M - 9, 10}, {1, 1, M - 1, 5, M - 10, 10}, {1, 1, 8, 0, M - 1, 5}, {1, 1, 8, M - 1, M - 1, 4},
            {M - 1, M - 1, M - 1, M - 1, 8, 4}, {0, 0, 0, M - 1, 0, M - 1}};
        for (int[] one : cases) {
            Bench f = resting();
            f.answers(0, "measure", 0, one[0], one[1], one[2], one[3]);
            f.measurement(0, 0, 0, one[4], one[5], Field.over((long) one[4] * one[4], one[5]), 0);
        }
    }

    /** "Throws IllegalArgumentException if another argument is out of range": nothing is told. */
    static void promise7EveryNumberBeyondItsEnds() {
        Bench f = resting();
        f.refusesOutside(1, "measure", 0, 1, 0, 10, M - 1);
        f.answers(0, "of", 0, 6);
        f.answers(0, "measure", 0, 1, 0, 10, M - 1);
        f.refusesOutside(1, "measure", 0, 1, 0, 10, 9);
        f.state(0, 16, 5, M - 2, 0, 3, 0, 1, 0);
    }

    /** "Throws IndexOutOfBoundsException if there is no such estimator." */
    static void promise7NoSuchEstimator() {
        noSuchEstimator("measure", 1, 0, 10, M - 1);
    }

    /** "If several apply, the one that is named first in the throws clause is thrown." */
    static void promise7TheOneNamedFirst() {
        Bench full = resting();
        tellThirty(full);
        Bench f = resting();
        for (Bench either : new Bench[] {f, full}) {
            for (int wrong : Field.OUTSIDE) {
                either.refuses(Bench.INDEX, "measure", 1, wrong, wrong, wrong, wrong);
                either.refuses(Bench.INDEX, "measure", -1, 0, 0, 0, wrong);
                either.refuses(Bench.ARGUMENT, "measure", 0, 1, 0, wrong, M - 2);
                either.refuses(Bench.ARGUMENT, "measure", 0, 0, 0, 0, wrong);
            }
            either.refuses(Bench.INDEX, "measure", 1, 0, 0, 0, 0);
            either.refuses(Bench.STATE, "measure", 0, 0, 0, 0, 0);
        }
    }

    /** "It is not possible, if S is 0"; next to that S is 1, or 10006. */
    static void promise7WhereSIs0() {
        Bench f = resting();
        f.refuses(Bench.STATE, "measure", 0, 1, 0, 10, M - 2);
        f.refuses(Bench.STATE, "measure", 0, 0, 1, 10, M - 3);
        f.refuses(Bench.STATE, "measure", 0, 1, 1, 10, M - 5);
        f.refuses(Bench.STATE, "measure", 0, 0, 0, 10, 0);
        f.refuses(Bench.STATE, "measure", 0, 0, 0, 0, 0);
        f.answers(0, "of", 0, 6);
        Bench one = resting();
        one.answers(0, "measure", 0, 1, 0, 10, M - 1);
        one.measurement(0, 0, 0, 6, 1, 36, 0);
        one.state(0, 16, 5, M - 2, 0, 3);
        Bench highest = resting();
        highest.answers(0, "measure", 0, 1, 0, 10, M - 3);
        highest.measurement(0, 0, 0, 6, M - 1, M - 36, 0);
        highest.state(0, M - 8, 5, 6, 0, 3);
    }

    /** "It is not possible, if S is 0, whatever its gate is." */
    static void promise7WhereSIs0WhateverTheGate() {
        for (int gate : new int[] {0, 1, 10005, 10006}) {
            Bench f = resting();
            f.answers(10006, "gate", 0, gate);
            f.refuses(Bench.STATE, "measure", 0, 1, 0, 4, M - 2);
            f.refuses(Bench.STATE, "measure", 0, 1, 0, 10, M - 2);
            f.state(0, 4, 5, 2, 0, 3, 0, 0, 0);
        }
    }

    /** S can become 0 by those that were taken at the same time: by then P00 is -2. */
    static void promise7WhereSIs0BehindAnother() {
        Bench f = resting();
        f.answers(0, "measure", 0, 1, 0, 10, M - 1);
        f.refuses(Bench.STATE, "measure", 0, 1, 0, 10, 2);
        f.answers(1, "measure", 0, 1, 0, 10, M - 2);
    }

    /** "A measurement that is refused is not told, and has no number": the next has it. */
    static void promise7RefusedHasNoNumber() {
        Bench f = resting();
        for (int measurement = 0; measurement < 30; measurement++) {
            f.refuses(Bench.STATE, "measure", 0, 1, 0, 10, M - 2);
            f.refuses(Bench.INDEX, "ofMeasurement", 0, measurement, 0);
            f.answers(measurement, "measure", 0, 0, 0, 0, 1);
        }
        f.answers(30, "of", 0, 6);
    }

    /** "Is GATED, and nothing more is done", if g is above the gate; not if it is at the gate. */
    static void promise7NothingMoreIsDone() {
        Bench f = resting();
        f.answers(10006, "gate", 0, 35);
        f.answers(0, "measure", 0, 1, 0, 10, M - 1);
        f.state(0, 4, 5, 2, 0, 3, 0, 1, 1);
        f.answers(35, "gate", 0, 36);
        f.answers(1, "measure", 0, 1, 0, 10, M - 1);
        f.state(0, 16, 5, M - 2, 0, 3, 0, 2, 1);
        f.measurement(0, 0, 0, 6, 1, 36, 1);
        f.measurement(0, 1, 0, 6, 1, 36, 0);
    }

    /** A y of 0 is never above a gate, and only P changes by it. */
    static void promise7WhereYIs0() {
        Bench f = resting();
        f.answers(10006, "gate", 0, 0);
        f.answers(0, "measure", 0, 1, 0, 4, M - 1);
        f.measurement(0, 0, 0, 0, 1, 0, 0);
        f.state(0, 4, 5, M - 2, 0, 3, 0, 1, 0);
    }

    /** "What would be below 0 has 10007 more": y, x and P. */
    static void promise7BelowZero() {
        Bench f = resting();
        f.answers(0, "measure", 0, 1, 1, 8, M - 4);
        f.measurement(0, 0, 0, M - 1, 1, 1, 0);
        f.state(0, 2, 2, M - 2, M - 6, M - 6);
        Bench g = resting();
        g.answers(0, "measure", 0, 1, 0, 0, M - 1);
        g.measurement(0, 0, 0, M - 4, 1, 16, 0);
        g.state(0, M - 4, 5, M - 2, 0, 3);
    }

    /** "Tells a measurement of the time of the estimator": at the first and at the last time. */
    static void promise7AtTheFirstAndTheLastTime() {
        Bench f = resting();
        f.answers(0, "measure", 0, 1, 0, 4, M - 1);
        f.answers(0, "ofMeasurement", 0, 0, 0);
        predictTo(f, 20);
        f.answers(1, "measure", 0, 0, 1, 6, M - 2);
        f.measurement(0, 1, 20, 1, 1, 1, 0);
        f.measurement(0, 0, 0, 0, 1, 0, 0);
        f.refuses(Bench.STATE, "measure", 0, 1, 0, 4, 2);
        f.state(0, 4, 8, M - 2, 0, M - 6, 20, 2, 0);
    }

    // ---- promise 8: late

    /** "time: 0 to the time of the estimator": at the time 0, in between and at the time 20. */
    static void promise8TimeAtItsEnds() {
        for (int now : new int[] {0, 1, 2, 19, 20}) {
            Bench f = resting();
            predictTo(f, now);
            f.answers(0, "late", 0, 0, 1, 0, 10, M - 1);
            f.answers(1, "late", 0, now, 0, 1, 6, M - 2);
            f.measurement(0, 0, 0, 6, 1, 36, 0);
            f.measurement(0, 1, now, 1, 1, 1, 0);
            f.state(0, 16, 8, M - 2, 0, M - 6, now, 2, 0);
        }
    }

    /** "Throws IllegalArgumentException if another argument is out of range": a time ahead, or below 0. */
    static void promise8TimeBeyondItsEnds() {
        for (int now : new int[] {0, 1, 19, 20}) {
            Bench f = resting();
            predictTo(f, now);
            for (int time : new int[] {-1, now + 1, 21, 10006, 10007, Integer.MIN_VALUE, Integer.MAX_VALUE}) {
                f.refuses(Bench.ARGUMENT, "late", 0, time, 1, 0, 10, M - 1);
            }
            f.answers(0, "of", 0, 6);
        }
    }

    /** "Of the FIELD": every number at 0 and at 10006, of a time that is over. */
    static void promise8EveryNumberAtItsEnds() {
        int[][] cases = {{0, 1, 8, 5, 3, 8}, {M - 1, 1, 8, 5, 7, 10}, {1, 0, 8, 5, 4, 7}, {1, M - 1, 8, 5, 9, 10},
            {1, 1, 0, 5, M - 9, 10}, {1, 1, M - 1, 5, M - 10, 10}, {1, 1, 8, 0, M - 1, 5}, {1, 1, 8, M - 1, M - 1, 4},
            {M - 1, M - 1, M - 1, M - 1, 8, 4}, {0, 0, 0, M - 1, 0, M - 1}};
        for (int[] one : cases) {
            Bench f = resting();
            predictTo(f, 2);
            f.answers(0, "late", 0, 1, one[0], one[1], one[2], one[3]);
            f.measurement(0, 0, 1, one[4], one[5], Field.over((long) one[4] * one[4], one[5]), 0);
        }
    }

    /** "Throws IllegalArgumentException if another argument is out of range": nothing is told. */
    static void promise8EveryNumberBeyondItsEnds() {
        Bench f = resting();
        predictTo(f, 2);
        f.refusesOutside(1, "late", 0, 1, 1, 0, 10, M - 1);
        f.answers(0, "late", 0, 1, 1, 0, 10, M - 1);
        f.refusesOutside(1, "late", 0, 0, 1, 0, 10, 9);
        f.state(0, 16, 5, M - 2, 0, 3, 2, 1, 0);
    }

    /** "Throws IndexOutOfBoundsException if there is no such estimator." */
    static void promise8NoSuchEstimator() {
        noSuchEstimator("late", 0, 1, 0, 10, M - 1);
    }

    /** "Throws IllegalStateException if there are 30": told in time, late, or DROPPED by now. */
    static void promise8ThirtyAndNoMore() {
        Bench f = resting();
        predictTo(f, 1);
        for (int measurement = 0; measurement < 30; measurement++) {
            f.answers(measurement, "late", 0, measurement % 2, 0, 0, 7, 1);
        }
        f.refuses(Bench.STATE, "late", 0, 0, 0, 0, 7, 1);
        f.refuses(Bench.STATE, "late", 0, 1, 1, 0, 7, 1);
        f.refuses(Bench.STATE, "measure", 0, 0, 0, 7, 1);
        f.does("drop", 0, 0);
        f.does("drop", 0, 29);
        f.refuses(Bench.STATE, "late", 0, 0, 0, 0, 7, 1);
        f.state(0, 4, 5, 2, 0, 3, 1, 30, 0);
    }

    /** "If several apply, the one that is named first in the throws clause is thrown." */
    static void promise8TheOneNamedFirst() {
        Bench full = resting();
        tellThirty(full);
        Bench f = resting();
        for (Bench either : new Bench[] {f, full}) {
            for (int wrong : Field.OUTSIDE) {
                either.refuses(Bench.INDEX, "late", 1, wrong, wrong, wrong, wrong, wrong);
                either.refuses(Bench.INDEX, "late", -1, 0, 0, 0, 0, wrong);
                either.refuses(Bench.ARGUMENT, "late", 0, wrong, 0, 0, 0, 0);
                either.refuses(Bench.ARGUMENT, "late", 0, 0, 0, 0, 0, wrong);
            }
            either.refuses(Bench.INDEX, "late", 1, 1, 0, 0, 0, 0);
            either.refuses(Bench.ARGUMENT, "late", 0, 1, 0, 0, 0, 0);
            either.refuses(Bench.STATE, "late", 0, 0, 0, 0, 0, 0);
        }
    }

    /** "Refused, if behind it some measurement ... would not be possible to take": a later one, once P00 is -2. */
    static void promise8RefusedForALaterOne() {
        for (int time : new int[] {1, 2, 20}) {
            Bench f = resting();
            predictTo(f, time);
            f.answers(0, "measure", 0, 1, 0, 7, 2);
            int x = f.does("of", 0, 0);
            f.refuses(Bench.STATE, "late", 0, 0, 1, 0, 10, M - 1);
            f.refuses(Bench.STATE, "late", 0, time - 1, 1, 0, 10, M - 1);
            f.measurement(0, 0, time, 3, 4, Field.over(9, 4), 0);
            f.state(0, x, 5, 1, 0, 3, time, 1, 0);
            f.answers(1, "late", 0, 0, 1, 0, 10, 2);
        }
    }

    /** "Behind it some measurement": also one with others between the two, which would all be possible. */
    static void promise8RefusedForTheLastOfMany() {
        Bench f = resting();
        f.answers(0, "measure", 0, 0, 1, 6, 3);
        predictTo(f, 1);
        f.answers(1, "measure", 0, 0, 1, 6, 4);
        f.answers(2, "predict", 0);
        f.answers(2, "measure", 0, 0, 1, 6, 5);
        f.answers(3, "measure", 0, 1, 0, 7, 2);
        f.refuses(Bench.STATE, "late", 0, 0, 1, 0, 10, M - 1);
        f.answers(4, "of", 0, 6);
        f.answers(4, "late", 0, 2, 1, 0, 10, 5);
    }

    /** "Some measurement that is not DROPPED": a GATED one too, as S 0 is not possible "whatever its gate is". */
    static void promise8RefusedForAGatedOne() {
        Bench f = resting();
        predictTo(f, 1);
        f.answers(10006, "gate", 0, 0);
        f.answers(0, "measure", 0, 1, 0, 7, 2);
        f.answers(0, "gate", 0, 10006);
        f.answers(1, "of", 0, 7);
        f.refuses(Bench.STATE, "late", 0, 0, 1, 0, 10, M - 1);
        f.measurement(0, 0, 1, 3, 4, Field.over(9, 4), 1);
    }

    /** "Some measurement that is not DROPPED": a DROPPED one is not in the way. */
    static void promise8NotRefusedForADroppedOne() {
        Bench f = resting();
        predictTo(f, 1);
        f.answers(0, "measure", 0, 1, 0, 7, 2);
        f.refuses(Bench.STATE, "late", 0, 0, 1, 0, 10, M - 1);
        f.does("drop", 0, 0);
        f.answers(1, "late", 0, 0, 1, 0, 10, M - 1);
        f.state(0, 16, 5, M - 2, 0, 3, 1, 2, 0);
    }

    /** A late one that would itself be GATED does nothing to those behind it: it is told. */
    static void promise8NotRefusedWhereItIsGated() {
        Bench f = resting();
        predictTo(f, 1);
        f.answers(0, "measure", 0, 1, 0, 7, 2);
        f.answers(10006, "gate", 0, 35);
        f.answers(1, "late", 0, 0, 1, 0, 10, M - 1);
        f.measurement(0, 1, 0, 6, 1, 36, 1);
        f.measurement(0, 0, 1, 3, 4, Field.over(9, 4), 0);
    }

    /** What is ahead of it in time, or at its time with a lower number, is not behind it. */
    static void promise8NotRefusedForThoseAheadOfIt() {
        Bench f = resting();
        predictTo(f, 1);
        f.answers(0, "measure", 0, 1, 0, 7, 2);
        f.answers(2, "predict", 0);
        // P00 is 1 behind the first, so that S is 0 with the noise -1, and -1 with the noise -2.
        f.refuses(Bench.STATE, "late", 0, 1, 1, 0, 10, M - 1);
        f.answers(1, "late", 0, 1, 1, 0, 10, M - 2);
        f.answers(2, "late", 0, 2, 0, 1, 10, M - 2);
        f.measurement(0, 0, 1, 3, 4, Field.over(9, 4), 0);
    }

    /** "A measurement that is refused is not told, and has no number." */
    static void promise8RefusedHasNoNumber() {
        Bench f = resting();
        predictTo(f, 1);
        f.answers(0, "measure", 0, 1, 0, 7, 2);
        for (int measurement = 1; measurement < 30; measurement++) {
            f.refuses(Bench.STATE, "late", 0, 0, 1, 0, 10, M - 1);
            f.refuses(Bench.INDEX, "ofMeasurement", 0, measurement, 0);
            f.answers(measurement, "late", 0, 0, 0, 0, 0, 1);
        }
        f.answers(30, "of", 0, 6);
    }

    /** S 0 of the late one itself, with P as it was at its time, and not as it is now. */
    static void promise8WhereItsOwnSIs0() {
        Bench f = new Bench();
        f.answers(0, "model");
        f.entries(0, 1, 0, 0, 1, 1, 0, 0);
        f.answers(0, "begin", 0, 4, 5, 2, 0, 3);
        predictTo(f, 3);
        for (int time = 0; time <= 3; time++) {
            f.refuses(Bench.STATE, "late", 0, time, 1, 0, 4, M - 2 - time);
            f.refuses(Bench.STATE, "late", 0, time, 0, 0, 4, 0);
        }
        f.answers(0, "late", 0, 0, 0, 1, 5, M - 2);
    }

    /** "By rising numbers": at one time the late one is taken behind all that were told sooner. */
    static void promise8BehindThoseOfItsTime() {
        Bench f = resting();
        f.answers(0, "measure", 0, 1, 0, 10, M - 1);
        predictTo(f, 1);
        f.answers(1, "measure", 0, 1, 0, 16, 3);
        f.measurement(0, 1, 1, 0, 1, 0, 0);
        f.answers(2, "late", 0, 0, 1, 0, 17, 3);
        f.measurement(0, 0, 0, 6, 1, 36, 0);
        f.measurement(0, 2, 0, 1, 1, 1, 0);
        // P00 is -2 less 4 by now, and x 14.
        f.measurement(0, 1, 1, 2, M - 3, Field.over(4, M - 3), 0);
    }

    // ---- promise 9: drop

    /** "Throws IndexOutOfBoundsException if there is no such estimator": all others are refused, too. */
    static void promise9NoSuchEstimator() {
        for (int count = 0; count <= 6; count += 2) {
            Bench f = resting(count);
            for (int number : new int[] {-1, count, Integer.MIN_VALUE, Integer.MAX_VALUE}) {
                f.refuses(Bench.INDEX, "drop", number, 0);
                f.refuses(Bench.INDEX, "drop", number, -1);
            }
        }
    }

    /** "Throws IndexOutOfBoundsException if there is no such ... measurement": none, one, or thirty told. */
    static void promise9NoSuchMeasurement() {
        Bench f = resting(2);
        f.answers(0, "measure", 1, 1, 0, 10, M - 1);
        int[] counts = {0, 1, 29, 30};
        int told = 0;
        for (int count : counts) {
            while (told < count) {
                f.answers(told, "measure", 0, 0, 0, 7, 1);
                told++;
            }
            for (int number : new int[] {-1, count, 30, Integer.MIN_VALUE, Integer.MAX_VALUE}) {
                f.refuses(Bench.INDEX, "drop", 0, number);
            }
        }
        f.does("drop", 0, 0);
        f.does("drop", 0, 29);
    }

    /** "Throws IllegalStateException if it is DROPPED." */
    static void promise9ItIsDropped() {
        Bench f = resting();
        f.answers(0, "measure", 0, 1, 0, 10, M - 1);
        f.answers(1, "measure", 0, 0, 1, 6, M - 2);
        f.does("drop", 0, 0);
        f.refuses(Bench.STATE, "drop", 0, 0);
        f.refuses(Bench.STATE, "drop", 0, 0);
        f.state(0, 4, 8, 2, 0, M - 6, 0, 2, 0);
        f.does("drop", 0, 1);
        f.refuses(Bench.STATE, "drop", 0, 1);
        f.state(0, 4, 5, 2, 0, 3, 0, 2, 0);
    }

    /** All thirty can be dropped, in any order; then it is as it was, and they keep their numbers. */
    static void promise9AllThirty() {
        Bench f = resting();
        for (int measurement = 0; measurement < 30; measurement++) {
            f.answers(measurement, "measure", 0, 1, 1, 100 + measurement, 7);
        }
        for (int step = 0; step < 30; step++) {
            f.does("drop", 0, step * 7 % 30);
        }
        f.state(0, 4, 5, 2, 0, 3, 0, 30, 0);
        f.measurement(0, 0, 0, -1, -1, -1, -1);
        f.measurement(0, 29, 0, -1, -1, -1, -1);
        f.refuses(Bench.STATE, "drop", 0, 0);
        f.refuses(Bench.STATE, "drop", 0, 29);
    }

    /** "To drop one, is refused, if behind it some measurement ... would not be possible": without the first S is 0. */
    static void promise9RefusedForALaterOne() {
        for (int time : new int[] {0, 1, 20}) {
            Bench f = resting();
            f.answers(0, "measure", 0, 1, 0, 10, M - 1);
            predictTo(f, time);
            f.answers(1, "measure", 0, 1, 0, 16, M - 2);
            f.refuses(Bench.STATE, "drop", 0, 0);
            f.measurement(0, 0, 0, 6, 1, 36, 0);
            f.measurement(0, 1, time, 0, M - 4, 0, 0);
            f.state(0, 16, 5, M - 1, 0, 3, time, 2, 0);
            f.does("drop", 0, 1);
            f.does("drop", 0, 0);
            f.state(0, 4, 5, 2, 0, 3, time, 2, 0);
        }
    }

    /** "Some measurement that is not DROPPED": a GATED one too. */
    static void promise9RefusedForAGatedOne() {
        Bench f = resting();
        f.answers(0, "measure", 0, 1, 0, 10, M - 1);
        f.answers(10006, "gate", 0, 0);
        f.answers(1, "measure", 0, 1, 0, 17, M - 2);
        f.answers(1, "of", 0, 7);
        f.refuses(Bench.STATE, "drop", 0, 0);
        f.state(0, 16, 5, M - 2, 0, 3, 0, 2, 1);
    }

    /** "Some measurement that is not DROPPED": a DROPPED one is not in the way. */
    static void promise9NotRefusedForADroppedOne() {
        Bench f = resting();
        f.answers(0, "measure", 0, 1, 0, 10, M - 1);
        f.answers(1, "measure", 0, 1, 0, 16, M - 2);
        f.refuses(Bench.STATE, "drop", 0, 0);
        f.does("drop", 0, 1);
        f.does("drop", 0, 0);
        f.refuses(Bench.STATE, "drop", 0, 1);
    }

    /** A GATED one did nothing, so to drop it is never in the way of those behind it. */
    static void promise9OfAGatedOne() {
        Bench f = resting();
        f.answers(10006, "gate", 0, 35);
        f.answers(0, "measure", 0, 1, 0, 10, M - 1);
        f.answers(1, "measure", 0, 1, 0, 4, M - 1);
        f.state(0, 4, 5, M - 2, 0, 3, 0, 2, 1);
        f.does("drop", 0, 0);
        f.state(0, 4, 5, M - 2, 0, 3, 0, 2, 0);
        f.measurement(0, 0, 0, -1, -1, -1, -1);
    }

    /** The first, one in between and the last, at the time 20. */
    static void promise9AtTheLastTime() {
        Bench f = resting();
        f.answers(0, "measure", 0, 1, 0, 10, M - 1);
        predictTo(f, 20);
        f.answers(1, "late", 0, 10, 0, 1, 6, M - 2);
        f.answers(2, "measure", 0, 1, 0, 17, 3);
        f.state(0, 14, 8, M - 6, 0, M - 6, 20, 3, 0);
        f.does("drop", 0, 1);
        f.state(0, 14, 5, M - 6, 0, 3);
        f.does("drop", 0, 2);
        f.state(0, 16, 5, M - 2, 0, 3);
        f.does("drop", 0, 0);
        f.state(0, 4, 5, 2, 0, 3, 20, 3, 0);
    }

    /** A DROPPED one keeps its number: the next has the next one. */
    static void promise9TheNumbersStay() {
        Bench f = resting();
        for (int measurement = 0; measurement < 30; measurement++) {
            f.answers(measurement, "measure", 0, 1, 0, 10, M - 1);
            f.does("drop", 0, measurement);
        }
        f.refuses(Bench.STATE, "measure", 0, 1, 0, 10, M - 1);
        f.refuses(Bench.STATE, "late", 0, 0, 1, 0, 10, M - 1);
    }

    /** What is GATED behind a DROPPED one is found anew, both ways. */
    static void promise9GatedOrNotAnew() {
        Bench f = resting();
        f.answers(0, "measure", 0, 1, 0, 10, M - 1);
        f.answers(10006, "gate", 0, 0);
        f.answers(1, "measure", 0, 1, 0, 16, 3);
        f.answers(2, "measure", 0, 1, 0, 4, 9);
        f.answers(0, "ofMeasurement", 0, 1, 4);
        f.answers(1, "ofMeasurement", 0, 2, 4);
        f.does("drop", 0, 0);
        f.measurement(0, 1, 0, 12, 5, Field.over(144, 5), 1);
        f.measurement(0, 2, 0, 0, 11, 0, 0);
        f.answers(1, "of", 0, 7);
    }
}
