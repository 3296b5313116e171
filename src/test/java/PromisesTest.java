/**
 * A method a promise, with numbers that can be found by hand: a noise is often chosen so that S is 1, and a number
 * below 0 is written as M less what it is below (M is the prime).
 */
public final class PromisesTest {
    private static final int M = Field.M;
    private static final int[] OUTSIDE = Field.OUTSIDE;

    public static void main(String[] args) {
        constants();
        promise1();
        promise2();
        promise3();
        promise3Matrices();
        promise4();
        promise4Exceptions();
        promise5();
        promise6();
        promise7();
        promise7Gate();
        promise7Exceptions();
        promise8();
        promise8Refused();
        promise8Exceptions();
        promise9();
        promise9Refused();
        promise10();
        promise11();
        promise12();
        promise13();
        promise14();
        promise14None();
        promise15();
        promise15AllOfF();
        promise15None();
        promise16();
        aheadWithAllOfF();
        promise17();
        numbersFarOff();
        Check.close("PromisesTest");
    }

    /** A filter with a model of F 1, 0, 0, 1 and Q 0. */
    private static FieldFilter still() {
        FieldFilter f = new FieldFilter();
        f.model();
        return f;
    }

    /** The same with the estimator 0: x 4, 5 and P 2, 0, 3. */
    private static FieldFilter resting() {
        FieldFilter f = still();
        f.begin(0, 4, 5, 2, 0, 3);
        return f;
    }

    private static void entries(FieldFilter f, int model, int... values) {
        for (int entry = 0; entry < values.length; entry++) {
            f.entry(model, entry, values[entry]);
        }
    }

    private static void state(String what, FieldFilter f, int estimator, int... due) {
        for (int number = 0; number < due.length; number++) {
            int asked = number;
            Check.answers(what + ": of(" + estimator + ", " + number + ")", due[number], () -> f.of(estimator, asked));
        }
    }

    private static void measurement(String what, FieldFilter f, int measurement, int... due) {
        for (int number = 0; number < due.length; number++) {
            int asked = number;
            Check.answers(what + ": ofMeasurement(0, " + measurement + ", " + number + ")", due[number],
                    () -> f.ofMeasurement(0, measurement, asked));
        }
    }

    private static long done(Runnable call) {
        call.run();
        return 0;
    }

    private static void constants() {
        Check.that("NONE", FieldFilter.NONE == -1);
        int[] entries = {FieldFilter.F00, FieldFilter.F01, FieldFilter.F10, FieldFilter.F11, FieldFilter.Q00,
            FieldFilter.Q01, FieldFilter.Q11};
        for (int entry = 0; entry < entries.length; entry++) {
            Check.that("ENTRY " + entry, entries[entry] == entry);
        }
    }

    private static void promise1() {
        FieldFilter f = new FieldFilter();
        Check.noSuch("a new object's entry", () -> f.entry(0, 0, 0));
        Check.noSuch("a new object's begin", () -> f.begin(0, 0, 0, 0, 0, 0));
        Check.noSuch("a new object's gate", () -> f.gate(0, 0));
        Check.noSuch("a new object's predict", () -> f.predict(0));
        Check.noSuch("a new object's measure", () -> f.measure(0, 1, 0, 0, 1));
        Check.noSuch("a new object's late", () -> f.late(0, 0, 1, 0, 0, 1));
        Check.noSuch("a new object's drop", () -> done(() -> f.drop(0, 0)));
        Check.noSuch("a new object's of", () -> f.of(0, 0));
        Check.noSuch("a new object's ofMeasurement", () -> f.ofMeasurement(0, 0, 0));
        Check.noSuch("a new object's gain", () -> f.gain(0, 1, 0, 1, 0));
        Check.noSuch("a new object's information", () -> f.information(0, 0));
        Check.noSuch("a new object's anew", () -> f.anew(0, 0));
        Check.noSuch("a new object's smoothed", () -> f.smoothed(0, 0, 0));
        Check.noSuch("a new object's ahead", () -> f.ahead(0, 0, 0));
        Check.noSuch("a new object's aheadAnew", () -> f.aheadAnew(0, 0, 0));
        FieldFilter other = new FieldFilter();
        f.model();
        f.begin(0, 0, 0, 0, 0, 0);
        Check.noSuch("models of another object", () -> other.entry(0, 0, 0));
        Check.noSuch("estimators of another object", () -> other.of(0, 0));
    }

    private static void promise2() {
        FieldFilter f = new FieldFilter();
        for (int model = 0; model < 6; model++) {
            Check.answers("model", model, f::model);
        }
        Check.badState("the seventh model", f::model);
        Check.noSuch("there is no seventh model", () -> f.entry(6, 0, 0));
        int[] first = {1, 0, 0, 1, 0, 0, 0};
        for (int entry = 0; entry < 7; entry++) {
            int asked = entry;
            Check.answers("entry " + entry + " of a new model", first[entry], () -> f.entry(5, asked, 9));
            Check.answers("entry " + entry + " of another model", first[entry], () -> f.entry(0, asked, 9));
        }
    }

    private static void promise3() {
        FieldFilter f = still();
        for (int entry = 0; entry < 7; entry++) {
            int asked = entry;
            f.entry(0, entry, 100 + entry);
            Check.answers("entry as it was", 100 + entry, () -> f.entry(0, asked, 10006));
            Check.answers("the greatest", 10006, () -> f.entry(0, asked, 0));
            Check.answers("the least", 0, () -> f.entry(0, asked, 77));
            for (int value : OUTSIDE) {
                Check.badArgument("value " + value, () -> f.entry(0, asked, value));
            }
            Check.answers("a refused value changes nothing", 77, () -> f.entry(0, asked, 77));
        }
        for (int entry : new int[] {-1, 7, Integer.MIN_VALUE, Integer.MAX_VALUE}) {
            Check.badArgument("entry " + entry, () -> f.entry(0, entry, 0));
            Check.noSuch("no model comes ahead of entry " + entry, () -> f.entry(1, entry, -1));
        }
        Check.noSuch("model -1", () -> f.entry(-1, 0, 0));
        Check.noSuch("model 1", () -> f.entry(1, 0, 0));
        Check.noSuch("model 2147483647", () -> f.entry(Integer.MAX_VALUE, 0, 0));
    }

    private static void promise3Matrices() {
        FieldFilter f = still();
        entries(f, 0, 1, 2, 3, 4, 5, 6, 7);
        f.begin(0, 1, 1, 0, 0, 0);
        f.predict(0);
        state("F by rows, Q", f, 0, 3, 7, 5, 6, 7);
        f.begin(0, 0, 0, 1, 0, 1);
        f.predict(1);
        state("F times F turned over, and Q", f, 1, 0, 0, 5 + 5, 11 + 6, 25 + 7);
    }

    private static void promise4() {
        FieldFilter f = still();
        entries(f, 0, 2, 0, 0, 1, 0, 0, 9);
        Check.answers("begin", 0, () -> f.begin(0, 10, 20, 30, 40, 50));
        state("as it began", f, 0, 10, 20, 30, 40, 50, 0, 0, 0, M - 100);
        Check.answers("the gate at first", 10006, () -> f.gate(0, 10006));
        entries(f, 0, 1, 1, 1, 1, 1, 1, 1);
        f.predict(0);
        state("the model as it was then", f, 0, 20, 20, 120, 80, 59, 1);
        Check.answers("begin", 1, () -> f.begin(0, 0, 10006, 0, 10006, 0));
        state("the least and the greatest", f, 1, 0, 10006, 0, 10006, 0, 0, 0, 0, 10006);
        f.model();
        Check.answers("begin", 2, () -> f.begin(1, 10006, 0, 10006, 0, 10006));
        f.predict(2);
        state("the other model", f, 2, 10006, 0, 10006, 0, 10006, 1, 0, 0, 1);
        state("the first is on its own", f, 0, 20, 20, 120, 80, 59, 1);
    }

    private static void promise4Exceptions() {
        FieldFilter f = still();
        for (int value : OUTSIDE) {
            Check.badArgument("x0 " + value, () -> f.begin(0, value, 0, 0, 0, 0));
            Check.badArgument("x1 " + value, () -> f.begin(0, 0, value, 0, 0, 0));
            Check.badArgument("p00 " + value, () -> f.begin(0, 0, 0, value, 0, 0));
            Check.badArgument("p01 " + value, () -> f.begin(0, 0, 0, 0, value, 0));
            Check.badArgument("p11 " + value, () -> f.begin(0, 0, 0, 0, 0, value));
            Check.noSuch("no model comes ahead of " + value, () -> f.begin(1, value, 0, 0, 0, 0));
        }
        Check.noSuch("model -1", () -> f.begin(-1, 0, 0, 0, 0, 0));
        Check.noSuch("nothing was begun", () -> f.of(0, 0));
        for (int estimator = 0; estimator < 6; estimator++) {
            int number = estimator;
            Check.answers("begin", estimator, () -> f.begin(0, number, 0, 0, 0, 0));
        }
        Check.badState("the seventh estimator", () -> f.begin(0, 0, 0, 0, 0, 0));
        Check.badArgument("a bad argument comes ahead of six", () -> f.begin(0, 0, 0, 0, 0, M));
        Check.noSuch("no model comes ahead of six", () -> f.begin(1, 0, 0, 0, 0, M));
        Check.noSuch("there is no seventh estimator", () -> f.of(6, 0));
        state("the last of six", f, 5, 5, 0, 0, 0, 0);
    }

    private static void promise5() {
        FieldFilter f = resting();
        Check.answers("gate", 10006, () -> f.gate(0, 0));
        Check.answers("gate", 0, () -> f.gate(0, 10006));
        Check.answers("gate", 10006, () -> f.gate(0, 99));
        for (int value : OUTSIDE) {
            Check.badArgument("gate " + value, () -> f.gate(0, value));
            Check.noSuch("no estimator comes ahead of gate " + value, () -> f.gate(1, value));
        }
        Check.noSuch("estimator -1", () -> f.gate(-1, 0));
        Check.answers("a refused gate changes nothing", 99, () -> f.gate(0, 99));
        f.predict(0);
        f.measure(0, 1, 0, 14, M - 1);
        measurement("y 10, S 1, above the gate 99", f, 0, 1, 10, 1, 100, 1);
        f.gate(0, 100);
        measurement("told with the gate as it was", f, 0, 1, 10, 1, 100, 1);
        f.late(0, 0, 1, 0, 14, M - 1);
        measurement("a late one has the gate as it is told", f, 1, 0, 10, 1, 100, 0);
        f.begin(0, 0, 0, 0, 0, 0);
        Check.answers("every estimator has its own", 10006, () -> f.gate(1, 5));
        Check.answers("every estimator has its own", 100, () -> f.gate(0, 5));
    }

    private static void promise6() {
        FieldFilter f = still();
        entries(f, 0, 1, 1, 0, 1, 1, 2, 3);
        f.begin(0, 4, 5, 2, 0, 3);
        Check.answers("predict", 1, () -> f.predict(0));
        state("F P F turned over, and Q", f, 0, 9, 5, 6, 5, 6, 1, 0, 0, 11);
        f.begin(0, 10006, 10006, 1, 1, 10006);
        f.predict(1);
        state("round the end of the FIELD", f, 1, 10005, 10006, 1 + 2 - 1 + 1, 1 - 1 + 2, 2, 1);
        for (int time = 2; time <= 20; time++) {
            Check.answers("predict", time, () -> f.predict(0));
        }
        Check.badState("the time is 20", () -> f.predict(0));
        Check.answers("the time stays 20", 20, () -> f.of(0, 5));
        Check.answers("x stays", 4 + 20 * 5, () -> f.of(0, 0));
        Check.answers("the other goes on", 2, () -> f.predict(1));
        Check.noSuch("estimator 2", () -> f.predict(2));
        Check.noSuch("estimator -1", () -> f.predict(-1));
    }

    private static void promise7() {
        FieldFilter f = resting();
        Check.answers("measure", 0, () -> f.measure(0, 1, 0, 10, M - 1));
        state("S 1, K 2, 0, y 6", f, 0, 4 + 12, 5, M - 2, 0, 3, 0, 1, 0, M - 6);
        measurement("S 1, K 2, 0, y 6", f, 0, 0, 6, 1, 36, 0);
        FieldFilter g = resting();
        g.measure(0, 1, 1, 12, M - 4);
        state("S 1, K 2, 3, y 3", g, 0, 10, 14, M - 2, M - 6, M - 6);
        FieldFilter d = resting();
        d.measure(0, 0, 1, 3, 10);
        int inverse = Field.inverse(13);
        state("S 13, y -2", d, 0, 4, (5 + 3 * inverse % M * (M - 2)) % M, 2, 0, (3 + 9 * inverse % M * (M - 1)) % M);
        Check.answers("the next number", 1, () -> d.measure(0, 10006, 10006, 10006, 10006));
        d.predict(0);
        Check.answers("the number at the next time", 2, () -> d.measure(0, 0, 0, 0, 1));
        measurement("its time", d, 2, 1, 0, 1, 0, 0);
    }

    private static void promise7Gate() {
        FieldFilter f = resting();
        f.gate(0, 35);
        Check.answers("a gated one has a number", 0, () -> f.measure(0, 1, 0, 10, M - 1));
        state("nothing more is done", f, 0, 4, 5, 2, 0, 3, 0, 1, 1);
        f.gate(0, 36);
        f.measure(0, 1, 0, 10, M - 1);
        state("g at the gate is not above it", f, 0, 16, 5, M - 2, 0, 3, 0, 2, 1);
        f.gate(0, 0);
        f.measure(0, 0, 1, 5, 1);
        measurement("g 0 at the gate 0", f, 2, 0, 0, 4, 0, 0);
    }

    private static void promise7Exceptions() {
        FieldFilter f = resting();
        for (int value : OUTSIDE) {
            Check.badArgument("h0 " + value, () -> f.measure(0, value, 0, 0, 1));
            Check.badArgument("h1 " + value, () -> f.measure(0, 0, value, 0, 1));
            Check.badArgument("z " + value, () -> f.measure(0, 0, 0, value, 1));
            Check.badArgument("r " + value, () -> f.measure(0, 0, 0, 0, value));
            Check.noSuch("no estimator comes ahead of " + value, () -> f.measure(1, value, 0, 0, 0));
        }
        Check.noSuch("estimator -1", () -> f.measure(-1, 1, 0, 0, 1));
        Check.badState("S 0", () -> f.measure(0, 1, 0, 4, M - 2));
        Check.badState("S 0 with h 0", () -> f.measure(0, 0, 0, 4, 0));
        f.gate(0, 0);
        Check.badState("S 0 whatever the gate", () -> f.measure(0, 1, 1, 0, M - 5));
        state("nothing of that was told", f, 0, 4, 5, 2, 0, 3, 0, 0, 0, 6);
        Check.badArgument("a bad argument comes ahead of S 0", () -> f.measure(0, 1, 0, M, M - 2));
        for (int measurement = 0; measurement < 30; measurement++) {
            Check.answers("measure", measurement, () -> f.measure(0, 0, 0, 0, 1));
        }
        Check.badState("the one and thirtieth", () -> f.measure(0, 0, 0, 0, 1));
        Check.badState("late at thirty", () -> f.late(0, 0, 0, 0, 0, 1));
        Check.badArgument("a bad argument comes ahead of thirty", () -> f.measure(0, 0, 0, 0, M));
        Check.noSuch("no estimator comes ahead of thirty", () -> f.measure(1, 0, 0, 0, M));
        f.drop(0, 3);
        Check.badState("a dropped one was told as well", () -> f.measure(0, 0, 0, 0, 1));
        Check.answers("thirty", 30, () -> f.of(0, 6));
        Check.noSuch("there is no such measurement", () -> f.ofMeasurement(0, 30, 0));
    }

    private static void promise8() {
        FieldFilter f = still();
        entries(f, 0, 2, 0, 0, 1, 0, 0, 0);
        f.begin(0, 4, 5, 2, 0, 3);
        f.predict(0);
        f.predict(0);
        Check.answers("late", 0, () -> f.late(0, 1, 1, 0, 11, M - 7));
        state("x 8, P 8: S 1, K 8, y 3; then predicted", f, 0, 64, 5, 4 * (M - 56) % M, 0, 3, 2, 1);
        Check.answers("late ahead of it", 1, () -> f.late(0, 0, 1, 0, 5, M - 1));
        measurement("the earlier one", f, 1, 0, 1, 1, 1, 0);
        // P at 1 is 4 times -2, so S of the first is -15; x at 1 is 2 times 6.
        measurement("the one behind it is found anew", f, 0, 1, M - 1, M - 15, Field.inverse(M - 15), 0);
        Check.answers("late at the time now", 2, () -> f.late(0, 2, 0, 1, 6, M - 2));
        Check.answers("which is like measure", 8, () -> f.of(0, 1));

        FieldFilter by = resting();
        by.predict(0);
        by.measure(0, 1, 0, 0, M - 1);
        by.late(0, 0, 1, 0, 0, 5);
        by.late(0, 1, 1, 0, 0, 5);
        by.late(0, 0, 1, 0, 0, 6);
        FieldFilter other = resting();
        other.measure(0, 1, 0, 0, 5);
        other.measure(0, 1, 0, 0, 6);
        other.predict(0);
        other.measure(0, 1, 0, 0, M - 1);
        other.measure(0, 1, 0, 0, 5);
        int[][] same = {{0, 2}, {1, 0}, {2, 3}, {3, 1}};
        for (int[] pair : same) {
            for (int what = 0; what < 5; what++) {
                int asked = what;
                Check.answers("by times and rising numbers", other.ofMeasurement(0, pair[1], what),
                        () -> by.ofMeasurement(0, pair[0], asked));
            }
        }
    }

    private static void promise8Refused() {
        FieldFilter f = resting();
        f.predict(0);
        f.measure(0, 1, 0, 7, 2);
        int x = f.of(0, 0);
        int p = f.of(0, 2);
        Check.badState("it makes P -2, and then S of the one behind it 0", () -> f.late(0, 0, 1, 0, 9, M - 1));
        state("nothing was told", f, 0, x, 5, p, 0, 3, 1, 1, 0);
        measurement("nothing was told", f, 0, 1, 3, 4, 9 * Field.inverse(4) % M, 0);
        Check.noSuch("it has no number", () -> f.ofMeasurement(0, 1, 0));
        Check.answers("the number is for the next", 1, () -> f.late(0, 0, 1, 0, 9, 1));
        Check.badState("S 0 itself", () -> f.late(0, 0, 0, 0, 9, 0));

        FieldFilter gated = resting();
        gated.predict(0);
        gated.gate(0, 0);
        gated.measure(0, 1, 0, 7, 2);
        Check.answers("gated", 1, () -> gated.of(0, 7));
        gated.gate(0, 10006);
        Check.badState("S of a gated one must not be 0 either", () -> gated.late(0, 0, 1, 0, 9, M - 1));
        gated.drop(0, 0);
        Check.answers("a dropped one is not in the way", 1, () -> gated.late(0, 0, 1, 0, 9, M - 1));
    }

    private static void promise8Exceptions() {
        FieldFilter f = resting();
        f.predict(0);
        for (int value : OUTSIDE) {
            Check.badArgument("h0 " + value, () -> f.late(0, 1, value, 0, 0, 1));
            Check.badArgument("h1 " + value, () -> f.late(0, 1, 0, value, 0, 1));
            Check.badArgument("z " + value, () -> f.late(0, 1, 0, 0, value, 1));
            Check.badArgument("r " + value, () -> f.late(0, 1, 0, 0, 0, value));
            Check.badArgument("time " + value, () -> f.late(0, value, 0, 0, 0, 1));
            Check.noSuch("no estimator comes ahead of " + value, () -> f.late(1, value, value, 0, 0, 0));
        }
        Check.badArgument("a time ahead", () -> f.late(0, 2, 0, 0, 0, 1));
        Check.badArgument("a time ahead comes ahead of S 0", () -> f.late(0, 2, 0, 0, 0, 0));
        Check.noSuch("estimator -1", () -> f.late(-1, 0, 0, 0, 0, 1));
        state("nothing was told", f, 0, 4, 5, 2, 0, 3, 1, 0, 0);
    }

    private static void promise9() {
        FieldFilter f = resting();
        f.measure(0, 1, 0, 10, M - 1);
        f.measure(0, 0, 1, 6, M - 2);
        f.drop(0, 0);
        state("as if it had never been taken", f, 0, 4, 8, 2, 0, M - 6, 0, 2, 0);
        measurement("of a dropped one", f, 0, 0, -1, -1, -1, -1);
        measurement("the other", f, 1, 0, 1, 1, 1, 0);
        Check.badState("it is dropped", () -> done(() -> f.drop(0, 0)));
        Check.noSuch("measurement -1", () -> done(() -> f.drop(0, -1)));
        Check.noSuch("measurement 2", () -> done(() -> f.drop(0, 2)));
        Check.noSuch("estimator 1", () -> done(() -> f.drop(1, 0)));
        Check.noSuch("estimator -1", () -> done(() -> f.drop(-1, 0)));
        Check.answers("a dropped one keeps its number", 2, () -> f.measure(0, 0, 0, 0, 1));

        FieldFilter gated = resting();
        gated.measure(0, 1, 0, 10, M - 1);
        gated.gate(0, 99);
        // y is -6 as x is 16 by now, and S -2 and 3; without the first y is 6, S 5.
        gated.measure(0, 1, 0, 10, 3);
        measurement("ahead of the drop", gated, 1, 0, M - 6, 1, 36, 0);
        gated.drop(0, 0);
        measurement("what is gated is found anew", gated, 1, 0, 6, 5, 36 * Field.inverse(5) % M, 1);
        state("what is gated is found anew", gated, 0, 4, 5, 2, 0, 3, 0, 2, 1);
        gated.drop(0, 1);
        Check.answers("a dropped one is not counted", 0, () -> gated.of(0, 7));
    }

    private static void promise9Refused() {
        FieldFilter f = resting();
        f.measure(0, 1, 0, 10, M - 1);
        f.measure(0, 1, 0, 16, M - 2);
        state("S -4, y 0", f, 0, 16, 5);
        int p = f.of(0, 2);
        Check.badState("without the first S would be 0", () -> done(() -> f.drop(0, 0)));
        state("nothing was dropped", f, 0, 16, 5, p, 0, 3, 0, 2, 0);
        measurement("nothing was dropped", f, 0, 0, 6, 1, 36, 0);
        measurement("nothing was dropped", f, 1, 0, 0, M - 4, 0, 0);
        f.drop(0, 1);
        f.drop(0, 0);
        state("the second first", f, 0, 4, 5, 2, 0, 3, 0, 2, 0);
    }

    private static void promise10() {
        FieldFilter f = still();
        f.begin(0, 1, 2, 3, 4, 5);
        f.predict(0);
        f.predict(0);
        f.gate(0, 0);
        f.measure(0, 1, 0, 2, M - 2);
        f.measure(0, 1, 0, 3, M - 2);
        f.measure(0, 0, 1, 2, M - 4);
        f.drop(0, 2);
        f.drop(0, 1);
        state("all of it", f, 0, 1, 2, 3, 4, 5, 2, 3, 1, M - 1);
        for (int what : new int[] {-1, 9, Integer.MIN_VALUE, Integer.MAX_VALUE}) {
            Check.badArgument("what " + what, () -> f.of(0, what));
            Check.noSuch("no estimator comes ahead of what " + what, () -> f.of(1, what));
        }
        Check.noSuch("estimator -1", () -> f.of(-1, 0));
    }

    private static void promise11() {
        FieldFilter f = resting();
        f.gate(0, 24);
        f.predict(0);
        f.measure(0, 1, 0, 10, M - 1);
        measurement("of a gated one as well", f, 0, 1, 6, 1, 36, 1);
        f.late(0, 0, 1, 0, 5, M - 1);
        measurement("the late one", f, 1, 0, 1, 1, 1, 0);
        measurement("as they are by now: x is 6, P -2", f, 0, 1, 4, M - 3, 16 * Field.inverse(M - 3) % M,
                16 * Field.inverse(M - 3) % M > 24 ? 1 : 0);
        f.drop(0, 0);
        measurement("of a dropped one", f, 0, 1, -1, -1, -1, -1);
        for (int what : new int[] {-1, 5, Integer.MIN_VALUE, Integer.MAX_VALUE}) {
            Check.badArgument("what " + what, () -> f.ofMeasurement(0, 1, what));
            Check.badArgument("what " + what + " of a dropped one", () -> f.ofMeasurement(0, 0, what));
            Check.noSuch("no measurement comes ahead of what " + what, () -> f.ofMeasurement(0, 2, what));
            Check.noSuch("no estimator comes ahead of what " + what, () -> f.ofMeasurement(1, 0, what));
        }
        Check.noSuch("measurement -1", () -> f.ofMeasurement(0, -1, 0));
        Check.noSuch("measurement 2", () -> f.ofMeasurement(0, 2, 0));
        Check.noSuch("estimator -1", () -> f.ofMeasurement(-1, 0, 0));
    }

    private static void promise12() {
        FieldFilter f = resting();
        Check.answers("S 1", 2, () -> f.gain(0, 1, 1, M - 4, 0));
        Check.answers("S 1", 3, () -> f.gain(0, 1, 1, M - 4, 1));
        Check.answers("S 2", 1, () -> f.gain(0, 1, 0, 0, 0));
        Check.answers("S 5", 3 * Field.inverse(5) % M, () -> f.gain(0, 0, 1, 2, 1));
        f.gate(0, 0);
        Check.answers("whatever the gate", 2, () -> f.gain(0, 1, 1, M - 4, 0));
        f.gate(0, 10006);
        f.measure(0, 1, 0, 10, M - 1);
        Check.answers("behind the others: P -2, S 1", M - 2, () -> f.gain(0, 1, 0, 3, 0));
        Check.badState("S 0", () -> f.gain(0, 1, 0, 2, 0));
        Check.badState("S 0 with h 0", () -> f.gain(0, 0, 0, 0, 1));
        for (int value : OUTSIDE) {
            Check.badArgument("h0 " + value, () -> f.gain(0, value, 0, 0, 0));
            Check.badArgument("h1 " + value, () -> f.gain(0, 0, value, 0, 0));
            Check.badArgument("r " + value, () -> f.gain(0, 0, 0, value, 0));
            Check.badArgument("which " + value + " ahead of S 0", () -> f.gain(0, 0, 0, 0, value));
            Check.noSuch("no estimator comes ahead of " + value, () -> f.gain(1, value, 0, 0, 0));
        }
        Check.badArgument("which 2", () -> f.gain(0, 1, 0, 3, 2));
        Check.noSuch("estimator -1", () -> f.gain(-1, 1, 0, 1, 0));
        state("a question changes nothing", f, 0, 16, 5, M - 2, 0, 3, 0, 1, 0);
    }

    private static void promise13() {
        FieldFilter f = still();
        f.begin(0, 3, 4, 2, 1, 1);
        int[] due = {M - 1, 5, 1, M - 1, 2};
        for (int what = 0; what < 5; what++) {
            int asked = what;
            Check.answers("information " + what, due[what], () -> f.information(0, asked));
        }
        f.begin(0, 2, 4, 2, 0, 4);
        int[] halves = {1, 1, 5004, 0, 2502};
        for (int what = 0; what < 5; what++) {
            int asked = what;
            Check.answers("information " + what, halves[what], () -> f.information(1, asked));
        }
        f.begin(0, 1, 1, 4, 2, 1);
        Check.badState("P of determinant 0", () -> f.information(2, 0));
        f.entry(0, 4, 1);
        f.begin(0, 1, 1, 4, 2, 1);
        f.predict(3);
        Check.answers("as it is now: P 5, 2, 1", 1, () -> f.information(3, 2));
        Check.answers("as it is now: P 5, 2, 1", M - 2, () -> f.information(3, 3));
        for (int what : new int[] {-1, 5, Integer.MIN_VALUE, Integer.MAX_VALUE}) {
            Check.badArgument("what " + what, () -> f.information(2, what));
            Check.noSuch("no estimator comes ahead of what " + what, () -> f.information(4, what));
        }
        Check.noSuch("estimator -1", () -> f.information(-1, 0));
    }

    private static void anewIsTheSame(String what, FieldFilter f, int estimator) {
        for (int number = 0; number < 5; number++) {
            int asked = number;
            Check.answers(what + ": anew(" + estimator + ", " + number + ")", f.of(estimator, number),
                    () -> f.anew(estimator, asked));
        }
    }

    private static void promise14() {
        FieldFilter f = still();
        entries(f, 0, 2, 3, 5, 7, 11, 13, 17);
        f.begin(0, 4, 5, 2, 1, 3);
        anewIsTheSame("at the time 0", f, 0);
        f.measure(0, 1, 2, 3, 4);
        anewIsTheSame("behind a measurement", f, 0);
        f.predict(0);
        f.measure(0, 6, 5, 4, 3);
        f.predict(0);
        f.predict(0);
        f.measure(0, 9, 0, 1, 10006);
        f.late(0, 1, 5, 5, 5, 5);
        anewIsTheSame("with a late one", f, 0);
        f.drop(0, 1);
        anewIsTheSame("without a dropped one", f, 0);
        for (int what : new int[] {-1, 5, Integer.MIN_VALUE, Integer.MAX_VALUE}) {
            Check.badArgument("what " + what, () -> f.anew(0, what));
            Check.noSuch("no estimator comes ahead of what " + what, () -> f.anew(1, what));
        }
        Check.noSuch("estimator -1", () -> f.anew(-1, 0));
    }

    private static void promise14None() {
        FieldFilter f = resting();
        f.gate(0, 0);
        f.measure(0, 1, 0, 10, 0);
        anewIsTheSame("r 0 of a gated one does not matter", f, 0);
        f.gate(0, 10006);
        f.predict(0);
        f.late(0, 0, 1, 0, 10, 0);
        Check.badState("r 0", () -> f.anew(0, 0));
        Check.badArgument("what comes ahead of none", () -> f.anew(0, 5));
        f.drop(0, 1);
        anewIsTheSame("r 0 of a dropped one does not matter", f, 0);

        FieldFilter g = still();
        entries(g, 0, 1, 0, 0, 1, 1, 0, 1);
        g.begin(0, 1, 1, 0, 0, 1);
        Check.badState("P at first of determinant 0", () -> g.anew(0, 0));
        g.predict(0);
        Check.answers("P is 1, 0, 2 by now", 2, () -> g.of(0, 8));
        Check.badState("P at first was of determinant 0", () -> g.anew(0, 0));
        g.begin(0, 1, 1, M - 1, 0, 1);
        anewIsTheSame("P -1, 0, 1", g, 1);
        g.predict(1);
        Check.badState("P predicted 0, 0, 2", () -> g.anew(1, 0));
        g.predict(1);
        Check.answers("P is 1, 0, 3 by now", 3, () -> g.of(1, 8));
        Check.badState("P predicted was 0, 0, 2", () -> g.anew(1, 0));
    }

    private static void promise15() {
        FieldFilter f = still();
        f.entry(0, 4, 1);
        f.entry(0, 6, 2);
        f.begin(0, 0, 7, 1, 0, 1);
        f.predict(0);
        f.measure(0, 1, 0, 5, M - 1);
        // P at 1 was 2, 0, 3, so x is 10, 7; C is the half, and the third, of which nothing is seen.
        Check.answers("now", 10, () -> f.smoothed(0, 1, 0));
        Check.answers("now", 7, () -> f.smoothed(0, 1, 1));
        Check.answers("backward", 5, () -> f.smoothed(0, 0, 0));
        Check.answers("backward", 7, () -> f.smoothed(0, 0, 1));
        f.predict(0);
        // P is -2 behind the measurement and -1 then, so the C is 2.
        f.measure(0, 1, 0, 11, 2);
        Check.answers("S 1, K -1", 9, () -> f.of(0, 0));
        Check.answers("10 less 2 times 1", 8, () -> f.smoothed(0, 1, 0));
        Check.answers("half of that", 4, () -> f.smoothed(0, 0, 0));
        Check.answers("what is ahead in time stays", 9, () -> f.smoothed(0, 2, 0));

        FieldFilter g = still();
        entries(g, 0, 1, 1, 0, 1, 0, 0, 0);
        g.begin(0, 1, 1, 1, 0, 1);
        g.predict(0);
        g.measure(0, 1, 0, 9, M - 1);
        // P at 1 is 2, 1, 1: S 1, K 2, 1, y 7, so x is 16, 8; with Q 0 it goes back through F.
        Check.answers("F is turned over", 8, () -> g.smoothed(0, 0, 0));
        Check.answers("F is turned over", 8, () -> g.smoothed(0, 0, 1));
    }

    /** With Q 0 the way back is F inverted, and x at 1, which is 5, 11, is F times 1, 2. */
    private static void promise15AllOfF() {
        FieldFilter f = still();
        entries(f, 0, 1, 2, 3, 4, 0, 0, 0);
        f.begin(0, 0, 0, 1, 0, 1);
        f.predict(0);
        f.measure(0, 1, 0, 1, M - 4);
        state("P was 5, 11, 25: S 1, K 5, 11, y 1", f, 0, 5, 11);
        Check.answers("through F inverted", 1, () -> f.smoothed(0, 0, 0));
        Check.answers("through F inverted", 2, () -> f.smoothed(0, 0, 1));
    }

    private static void promise15None() {
        FieldFilter f = still();
        entries(f, 0, 1, 0, 0, 1, 1, 0, 1);
        f.begin(0, 3, 4, M - 1, 0, 0);
        f.predict(0);
        Check.answers("at the time now it is x", 3, () -> f.smoothed(0, 1, 0));
        Check.badState("P predicted 0, 0, 1", () -> f.smoothed(0, 0, 0));
        f.predict(0);
        Check.answers("P for an earlier time does not matter", 3, () -> f.smoothed(0, 1, 0));
        Check.badState("P for the time 0", () -> f.smoothed(0, 0, 0));
        f.begin(0, 3, 4, M - 2, 0, 1);
        f.predict(1);
        Check.answers("P predicted -1, 0, 2", 3, () -> f.smoothed(1, 0, 0));
        f.predict(1);
        Check.badState("P for a later time, 0, 0, 3", () -> f.smoothed(1, 0, 0));
        f.begin(0, 3, 4, 0, 0, 0);
        f.predict(2);
        Check.answers("P that is not inverted may be 0", 4, () -> f.smoothed(2, 0, 1));
        for (int value : OUTSIDE) {
            Check.badArgument("time " + value, () -> f.smoothed(0, value, 0));
            Check.badArgument("which " + value, () -> f.smoothed(0, 0, value));
            Check.noSuch("no estimator comes ahead of " + value, () -> f.smoothed(3, value, value));
        }
        Check.badArgument("a time ahead", () -> f.smoothed(0, 3, 0));
        Check.badArgument("which 2 comes ahead of none", () -> f.smoothed(0, 0, 2));
        Check.noSuch("estimator -1", () -> f.smoothed(-1, 0, 0));
    }

    private static FieldFilter moving() {
        FieldFilter f = still();
        entries(f, 0, 1, 1, 0, 1, 1, 2, 3);
        f.begin(0, 4, 5, 2, 0, 3);
        f.predict(0);
        return f;
    }

    private static void promise16() {
        FieldFilter f = moving();
        int[] now = {9, 5, 6, 5, 6};
        int[] next = {14, 5, 6 + 10 + 6 + 1, 5 + 6 + 2, 9};
        for (int what = 0; what < 5; what++) {
            int asked = what;
            Check.answers("ahead by 0", now[what], () -> f.ahead(0, 0, asked));
            Check.answers("ahead by 1", next[what], () -> f.ahead(0, 1, asked));
        }
        long far = 1000000000L;
        Check.answers("as far as it goes", (9 + 5 * far) % M, () -> f.ahead(0, 1000000000, 0));
        Check.answers("as far as it goes", 5, () -> f.ahead(0, 1000000000, 1));
        Check.answers("as far as it goes", (6 + 3 * far) % M, () -> f.ahead(0, 1000000000, 4));
        Check.answers("P01 is a sum", (5 + 8 * far + 3 * (far * (far - 1) / 2 % M)) % M,
                () -> f.ahead(0, 1000000000, 3));
        Check.badArgument("times -1", () -> f.ahead(0, -1, 0));
        Check.badArgument("times 1000000001", () -> f.ahead(0, 1000000001, 0));
        Check.badArgument("times 2147483647", () -> f.ahead(0, Integer.MAX_VALUE, 0));
        state("a question changes nothing", f, 0, 9, 5, 6, 5, 6, 1);
        for (int what : new int[] {-1, 5, Integer.MIN_VALUE, Integer.MAX_VALUE}) {
            Check.badArgument("what " + what, () -> f.ahead(0, 1, what));
            Check.noSuch("no estimator comes ahead of what " + what, () -> f.ahead(1, -1, what));
        }
        Check.noSuch("estimator -1", () -> f.ahead(-1, 0, 0));
    }

    private static void promise17() {
        FieldFilter f = moving();
        int[] now = {9, 5, 6, 5, 6};
        int[] next = {14, 5, 6 + 10 + 6 + 1, 5 + 6 + 2, 9};
        for (int what = 0; what < 5; what++) {
            int asked = what;
            // One more filter for each, as it answers 512 calls and no more.
            FieldFilter g = moving();
            Check.answers("anew by 0", now[what], () -> g.aheadAnew(0, 0, asked));
            Check.answers("anew by 1", next[what], () -> g.aheadAnew(0, 1, asked));
            for (int times = 2; times <= 200; times++) {
                int steps = times;
                Check.answers("anew by " + times, g.ahead(0, times, what), () -> g.aheadAnew(0, steps, asked));
            }
        }
        Check.answers("anew by 200", 9 + 5 * 200, () -> f.aheadAnew(0, 200, 0));
        Check.badArgument("times -1", () -> f.aheadAnew(0, -1, 0));
        Check.badArgument("times 201", () -> f.aheadAnew(0, 201, 0));
        Check.badArgument("times 2147483647", () -> f.aheadAnew(0, Integer.MAX_VALUE, 0));
        state("a question changes nothing", f, 0, 9, 5, 6, 5, 6, 1);
        for (int what : new int[] {-1, 5, Integer.MIN_VALUE, Integer.MAX_VALUE}) {
            Check.badArgument("what " + what, () -> f.aheadAnew(0, 1, what));
            Check.noSuch("no estimator comes ahead of what " + what, () -> f.aheadAnew(1, -1, what));
        }
        Check.noSuch("estimator -1", () -> f.aheadAnew(-1, 0, 0));
    }

    private static void aheadWithAllOfF() {
        FieldFilter f = still();
        entries(f, 0, 1, 2, 3, 4, 5, 6, 7);
        f.begin(0, 1, 1, 0, 0, 0);
        int[][] due = {{1, 1, 0, 0, 0}, {3, 7, 5, 6, 7}, {17, 37, 62, 137, 308}, {91, 199, 1847, 4026, 8781}};
        for (int times = 0; times < due.length; times++) {
            aheadIs(f, times, due[times]);
        }
        FieldFilter g = still();
        entries(g, 0, 1, 2, 3, 4, 5, 6, 7);
        g.begin(0, 1, 1, 0, 0, 0);
        for (int times = 1; times <= 20; times++) {
            g.predict(0);
            int[] now = new int[5];
            for (int what = 0; what < 5; what++) {
                now[what] = g.of(0, what);
            }
            aheadIs(f, times, now);
        }
    }

    private static void aheadIs(FieldFilter f, int times, int[] due) {
        for (int what = 0; what < 5; what++) {
            int asked = what;
            Check.answers("number " + what + " ahead by " + times, due[what], () -> f.ahead(0, times, asked));
            Check.answers("number " + what + " anew by " + times, due[what], () -> f.aheadAnew(0, times, asked));
        }
    }

    /** Numbers that are not just one too great. */
    private static void numbersFarOff() {
        FieldFilter f = resting();
        f.measure(0, 1, 0, 0, 1);
        for (int number : new int[] {2, 5, 6, 29, 30, 31, Integer.MAX_VALUE, Integer.MIN_VALUE}) {
            Check.noSuch("entry of model " + number, () -> f.entry(number, 0, 0));
            Check.noSuch("begin of model " + number, () -> f.begin(number, 0, 0, 0, 0, 0));
            Check.noSuch("gate of " + number, () -> f.gate(number, 0));
            Check.noSuch("predict of " + number, () -> f.predict(number));
            Check.noSuch("measure of " + number, () -> f.measure(number, 1, 0, 0, 1));
            Check.noSuch("late of " + number, () -> f.late(number, 0, 1, 0, 0, 1));
            Check.noSuch("drop of " + number, () -> done(() -> f.drop(number, 0)));
            Check.noSuch("drop of measurement " + number, () -> done(() -> f.drop(0, number)));
            Check.noSuch("of " + number, () -> f.of(number, 0));
            Check.noSuch("ofMeasurement of " + number, () -> f.ofMeasurement(number, 0, 0));
            Check.noSuch("ofMeasurement of measurement " + number, () -> f.ofMeasurement(0, number, 0));
            Check.noSuch("gain of " + number, () -> f.gain(number, 1, 0, 1, 0));
            Check.noSuch("information of " + number, () -> f.information(number, 0));
            Check.noSuch("anew of " + number, () -> f.anew(number, 0));
            Check.noSuch("smoothed of " + number, () -> f.smoothed(number, 0, 0));
            Check.noSuch("ahead of " + number, () -> f.ahead(number, 0, 0));
            Check.noSuch("aheadAnew of " + number, () -> f.aheadAnew(number, 0, 0));
        }
    }
}
