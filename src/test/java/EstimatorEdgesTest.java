/** The boundary cases of promises 4 to 6, a test for each sentence of the document that names one. */
public final class EstimatorEdgesTest {
    private static final int M = Field.M;
    private static final int[] NO_NUMBERS = {-1, Integer.MIN_VALUE, Integer.MAX_VALUE};

    public static void main(String[] args) {
        Check.runPromises(EstimatorEdgesTest.class, 4, 6);
    }

    private static Bench models(int count) {
        Bench f = new Bench();
        for (int model = 0; model < count; model++) {
            f.answers(model, "model");
        }
        return f;
    }

    /** The model 0 and so many estimators: x 4, 5 and P 2, 0, 3, at rest. */
    private static Bench resting(int estimators) {
        Bench f = models(1);
        for (int estimator = 0; estimator < estimators; estimator++) {
            f.answers(estimator, "begin", 0, 4, 5, 2, 0, 3);
        }
        return f;
    }

    private static void noSuchEstimator(String name, int... others) {
        for (int count = 0; count <= 6; count++) {
            Bench f = resting(count);
            int[] arguments = new int[1 + others.length];
            System.arraycopy(others, 0, arguments, 1, others.length);
            for (int number : NO_NUMBERS) {
                arguments[0] = number;
                f.refuses(Bench.INDEX, name, arguments);
            }
            arguments[0] = count;
            f.refuses(Bench.INDEX, name, arguments);
            if (count > 0) {
                arguments[0] = count - 1;
                f.does(name, arguments);
            }
        }
    }

    // ---- promise 4: begin

    /** "Estimators are numbered from 0, at most 6"; "Throws IllegalStateException if there are 6". */
    static void promise4SixAndNoSeventh() {
        Bench f = models(2);
        for (int estimator = 0; estimator < 6; estimator++) {
            f.answers(estimator, "begin", estimator % 2, estimator, 10, 20, 30, 40 + estimator);
        }
        f.refuses(Bench.STATE, "begin", 0, 1, 1, 1, 1, 1);
        f.refuses(Bench.STATE, "begin", 1, 1, 1, 1, 1, 1);
        f.refuses(Bench.INDEX, "of", 6, 0);
        for (int estimator = 0; estimator < 6; estimator++) {
            f.state(estimator, estimator, 10, 20, 30, 40 + estimator, 0, 0, 0);
        }
    }

    /** "Throws IndexOutOfBoundsException if there is no such model." */
    static void promise4NoSuchModel() {
        for (int count = 0; count <= 6; count++) {
            Bench f = models(count);
            for (int number : NO_NUMBERS) {
                f.refuses(Bench.INDEX, "begin", number, 1, 1, 1, 1, 1);
            }
            f.refuses(Bench.INDEX, "begin", count, 1, 1, 1, 1, 1);
            if (count > 0) {
                f.answers(0, "begin", count - 1, 1, 1, 1, 1, 1);
            }
        }
    }

    /** "Of the FIELD": every number of x and P at 0 and at 10006. */
    static void promise4EveryNumberAtItsEnds() {
        for (int argument = 1; argument <= 5; argument++) {
            for (int end : new int[] {0, M - 1}) {
                int[] arguments = {0, 1, 2, 3, 4, 5};
                arguments[argument] = end;
                Bench f = models(1);
                f.answers(0, "begin", arguments);
                f.state(0, arguments[1], arguments[2], arguments[3], arguments[4], arguments[5]);
            }
        }
        Bench least = models(1);
        least.answers(0, "begin", 0, 0, 0, 0, 0, 0);
        least.state(0, 0, 0, 0, 0, 0, 0, 0, 0, 0);
        Bench most = models(1);
        most.answers(0, "begin", 0, M - 1, M - 1, M - 1, M - 1, M - 1);
        most.state(0, M - 1, M - 1, M - 1, M - 1, M - 1, 0, 0, 0, 0);
    }

    /** "Throws IllegalArgumentException if another argument is out of range": nothing begins, no number is used up. */
    static void promise4EveryNumberBeyondItsEnds() {
        Bench f = models(1);
        f.refusesOutside(1, "begin", 0, 1, 2, 3, 4, 5);
        f.refuses(Bench.INDEX, "of", 0, 0);
        f.answers(0, "begin", 0, 1, 2, 3, 4, 5);
        f.refusesOutside(1, "begin", 0, 6, 7, 8, 9, 10);
        f.answers(1, "begin", 0, 6, 7, 8, 9, 10);
        f.state(0, 1, 2, 3, 4, 5);
    }

    /** "If several apply, the one that is named first in the throws clause is thrown." */
    static void promise4TheOneNamedFirst() {
        Bench f = resting(6);
        for (int wrong : Field.OUTSIDE) {
            f.refuses(Bench.INDEX, "begin", 1, wrong, wrong, wrong, wrong, wrong);
            f.refuses(Bench.INDEX, "begin", -1, 0, 0, 0, 0, wrong);
            f.refuses(Bench.ARGUMENT, "begin", 0, wrong, 0, 0, 0, 0);
            f.refuses(Bench.ARGUMENT, "begin", 0, 0, 0, 0, 0, wrong);
        }
        f.refuses(Bench.INDEX, "begin", 1, 0, 0, 0, 0, 0);
        f.refuses(Bench.STATE, "begin", 0, 0, 0, 0, 0, 0);
        Bench few = resting(5);
        few.refuses(Bench.INDEX, "begin", 1, M, 0, 0, 0, 0);
    }

    /** "An estimator begins at the time 0", with nothing told. */
    static void promise4BeginsAtTheTime0() {
        Bench f = resting(1);
        f.state(0, 4, 5, 2, 0, 3, 0, 0, 0, 6);
        f.refuses(Bench.INDEX, "ofMeasurement", 0, 0, 0);
        f.refuses(Bench.ARGUMENT, "late", 0, 1, 1, 0, 1, 1);
        f.answers(1, "predict", 0);
        f.answers(1, "begin", 0, 4, 5, 2, 0, 3);
        f.answers(0, "of", 1, 5);
        f.refuses(Bench.ARGUMENT, "late", 1, 1, 1, 0, 1, 1);
    }

    /** "Its gate is 10006 at first": g of 10006, the highest there is, is not above it. */
    static void promise4GateAtFirst() {
        Bench f = models(1);
        f.answers(0, "begin", 0, 0, 0, 0, 0, 0);
        f.answers(0, "measure", 0, 1, 0, 1, M - 1);
        f.measurement(0, 0, 0, 1, M - 1, M - 1, 0);
        f.answers(10006, "gate", 0, 10005);
        f.answers(1, "measure", 0, 1, 0, 1, M - 1);
        f.measurement(0, 1, 0, 1, M - 1, M - 1, 1);
        f.measurement(0, 0, 0, 1, M - 1, M - 1, 0);
        f.answers(1, "begin", 0, 0, 0, 0, 0, 0);
        f.answers(10006, "gate", 1, 0);
    }

    /** "The model as it is then; what is told to the model afterwards does not matter to it." */
    static void promise4TheModelAsItIsThen() {
        Bench f = models(1);
        f.entries(0, 1, 1, 0, 1, 1, 2, 3);
        f.answers(0, "begin", 0, 4, 5, 2, 0, 3);
        f.answers(1, "predict", 0);
        Bench same = f.again();
        f.entries(0, 0, 0, 0, 0, 0, 0, 0);
        f.answers(1, "begin", 0, 4, 5, 2, 0, 3);
        f.answers(1, "predict", 1);
        f.state(1, 0, 0, 0, 0, 0, 1);
        f.state(0, 9, 5, 6, 5, 6, 1);
        for (Bench either : new Bench[] {f, same}) {
            either.answers(0, "late", 0, 0, 1, 0, 10, M - 1);
            either.state(0, 21, 5, 2, 5, 6, 1, 1);
            either.answers(2, "predict", 0);
            either.state(0, 26, 5, 19, 13, 9, 2);
            either.answers(26 + 5, "ahead", 0, 1, 0);
            either.answers(26 + 5, "aheadAnew", 0, 1, 0);
        }
    }

    /** "A call that throws an exception changes nothing": a begin that was refused has no number. */
    static void promise4RefusedHasNoNumber() {
        Bench f = models(1);
        for (int estimator = 0; estimator < 6; estimator++) {
            f.refuses(Bench.ARGUMENT, "begin", 0, M, 0, 0, 0, 0);
            f.refuses(Bench.INDEX, "begin", 1, 0, 0, 0, 0, 0);
            f.answers(estimator, "begin", 0, estimator, 0, 0, 0, 0);
        }
    }

    // ---- promise 5: gate

    /** "gate: 0 to 10006." */
    static void promise5GateAtItsEnds() {
        Bench f = resting(1);
        f.answers(10006, "gate", 0, 0);
        f.answers(0, "gate", 0, 10006);
        f.answers(10006, "gate", 0, 10006);
        f.answers(10006, "gate", 0, 0);
        f.answers(0, "gate", 0, 0);
    }

    /** "Throws IllegalArgumentException if gate is out of range": the gate stays what it was. */
    static void promise5GateBeyondItsEnds() {
        for (int gate : new int[] {0, 50, 10006}) {
            Bench f = resting(1);
            f.answers(10006, "gate", 0, gate);
            f.refusesOutside(1, "gate", 0, 7);
            f.answers(gate, "gate", 0, gate);
        }
    }

    /** "Throws IndexOutOfBoundsException if there is no such estimator." */
    static void promise5NoSuchEstimator() {
        noSuchEstimator("gate", 7);
    }

    /** "If several apply, the one that is named first in the throws clause is thrown." */
    static void promise5NoEstimatorIsNamedFirst() {
        Bench f = resting(1);
        for (int wrong : Field.OUTSIDE) {
            f.refuses(Bench.INDEX, "gate", 1, wrong);
            f.refuses(Bench.INDEX, "gate", -1, wrong);
        }
    }

    /** "If g, as a number 0 to 10006, is above its gate": with the gate at g, and one below. */
    static void promise5AtTheGateAndAbove() {
        // x0 is 4, P00 is 2: with z 4 and y, and the noise S less 2, g is y times y divided by S.
        int[][] cases = {{0, 1, 0}, {1, 1, 1}, {2, 1, 4}, {1, M - 1, M - 1}, {100, 1, 10000}, {M - 100, 1, 10000}};
        for (int[] one : cases) {
            int y = one[0];
            int s = one[1];
            int g = one[2];
            Bench at = resting(1);
            at.answers(10006, "gate", 0, g);
            at.answers(0, "measure", 0, 1, 0, Field.mod(4 + y), Field.mod(s - 2));
            at.measurement(0, 0, 0, y, s, g, 0);
            at.state(0, Field.mod(4 + Field.over(2 * y, s)), 5, Field.mod(2 - Field.over(4, s)), 0, 3, 0, 1, 0);
            if (g > 0) {
                Bench below = resting(1);
                below.answers(10006, "gate", 0, g - 1);
                below.answers(0, "measure", 0, 1, 0, Field.mod(4 + y), Field.mod(s - 2));
                below.measurement(0, 0, 0, y, s, g, 1);
                below.state(0, 4, 5, 2, 0, 3, 0, 1, 1);
            }
        }
    }

    /** "For measurements from now on": those that were told keep the gate of then, through all that comes. */
    static void promise5FromNowOn() {
        Bench f = resting(1);
        f.answers(10006, "gate", 0, 35);
        f.answers(0, "measure", 0, 1, 0, 10, M - 1);
        f.measurement(0, 0, 0, 6, 1, 36, 1);
        f.answers(35, "gate", 0, 10006);
        f.measurement(0, 0, 0, 6, 1, 36, 1);
        f.answers(1, "measure", 0, 0, 1, 6, M - 2);
        f.answers(10006, "gate", 0, 0);
        f.measurement(0, 1, 0, 1, 1, 1, 0);
        f.answers(1, "predict", 0);
        f.does("drop", 0, 1);
        f.measurement(0, 0, 0, 6, 1, 36, 1);
        f.answers(2, "late", 0, 0, 0, 1, 5, M - 2);
        f.measurement(0, 0, 0, 6, 1, 36, 1);
        f.answers(1, "of", 0, 7);
    }

    /** "With the gate that the estimator has as it is told, also a late one." */
    static void promise5OfALateOne() {
        Bench f = resting(1);
        f.answers(10006, "gate", 0, 35);
        f.answers(1, "predict", 0);
        f.answers(0, "late", 0, 0, 1, 0, 10, M - 1);
        f.measurement(0, 0, 0, 6, 1, 36, 1);
        f.answers(35, "gate", 0, 36);
        f.answers(1, "late", 0, 0, 1, 0, 10, M - 1);
        f.measurement(0, 1, 0, 6, 1, 36, 0);
        f.measurement(0, 0, 0, 6, 1, 36, 1);
    }

    // ---- promise 6: predict

    /** "Returns the time then"; "Throws IllegalStateException if the time is 20". */
    static void promise6TheTimeIs20() {
        Bench f = models(1);
        f.entries(0, 1, 1, 0, 1, 0, 0, 1);
        f.answers(0, "begin", 0, 4, 5, 2, 0, 3);
        f.answers(0, "measure", 0, 0, 1, 6, M - 2);
        f.answers(1, "begin", 0, 4, 5, 2, 0, 3);
        for (int time = 1; time <= 20; time++) {
            f.answers(time, "predict", 0);
        }
        f.state(0, 4 + 20 * 8, 8);
        f.refuses(Bench.STATE, "predict", 0);
        f.refuses(Bench.STATE, "predict", 0);
        f.state(0, 4 + 20 * 8, 8);
        f.answers(20, "of", 0, 5);
        f.answers(1, "predict", 1);
        f.state(1, 9, 5);
    }

    /** "Throws IndexOutOfBoundsException if there is no such estimator." */
    static void promise6NoSuchEstimator() {
        noSuchEstimator("predict");
    }

    /** "To predict is always possible": with all thirty told, and what was GATED or DROPPED. */
    static void promise6PossibleWithAllThirty() {
        Bench f = resting(1);
        f.answers(10006, "gate", 0, 0);
        for (int measurement = 0; measurement < 30; measurement++) {
            f.answers(measurement, "measure", 0, 1, 0, 10, 3 + measurement);
        }
        f.does("drop", 0, 29);
        f.answers(29, "of", 0, 7);
        f.answers(1, "predict", 0);
        f.state(0, 4, 5, 2, 0, 3, 1, 30, 29);
    }

    /** "To predict is always possible": with F, Q and P that are 0, or are not INVERTIBLE. */
    static void promise6PossibleWithNothingInvertible() {
        Bench f = models(1);
        f.entries(0, 0, 0, 0, 0, 0, 0, 0);
        f.answers(0, "begin", 0, 4, 5, 4, 2, 1);
        f.answers(1, "predict", 0);
        f.state(0, 0, 0, 0, 0, 0, 1, 0, 0, 0);
        f.answers(2, "predict", 0);
        f.state(0, 0, 0, 0, 0, 0, 2, 0, 0, 0);
        f.entries(0, 0, 0, 0, 0, 5, 6, 7);
        f.answers(1, "begin", 0, 4, 5, 0, 0, 0);
        f.answers(1, "predict", 1);
        f.state(1, 0, 0, 5, 6, 7, 1, 0, 0, M - 1);
    }

    /** Numbers "are added, multiplied and taken from each other modulo 10007": all of them at their highest. */
    static void promise6RoundTheEndOfTheField() {
        Bench f = models(1);
        f.entries(0, M - 1, M - 1, M - 1, M - 1, M - 1, M - 1, M - 1);
        f.answers(0, "begin", 0, M - 1, M - 1, M - 1, M - 1, M - 1);
        f.answers(1, "predict", 0);
        // With -1 everywhere F x is 2, and F P F turned over is -4.
        f.state(0, 2, 2, M - 5, M - 5, M - 5, 1, 0, 0, 0);
        f.answers(2, "predict", 0);
        f.state(0, M - 4, M - 4, M - 21, M - 21, M - 21, 2, 0, 0, 0);
        Bench one = models(1);
        one.entries(0, 1, 1, 0, 1, 0, 0, 1);
        one.answers(0, "begin", 0, M - 1, 1, 0, 0, M - 1);
        one.answers(1, "predict", 0);
        one.state(0, 0, 1, M - 1, M - 1, 0, 1, 0, 0, M - 1);
    }

    /** "First, if the time is above 0, predict": not at the time 0, and once at every other. */
    static void promise6NotAtTheTime0() {
        Bench f = models(1);
        f.entries(0, 2, 0, 0, 3, 1, 0, 0);
        f.answers(0, "begin", 0, 4, 5, 2, 0, 3);
        f.answers(0, "measure", 0, 0, 0, 0, 1);
        f.state(0, 4, 5, 2, 0, 3, 0);
        f.answers(1, "predict", 0);
        f.answers(1, "late", 0, 0, 0, 0, 0, 1);
        f.state(0, 8, 15, 9, 0, 27, 1);
        f.answers(2, "predict", 0);
        f.does("drop", 0, 0);
        f.state(0, 16, 45, 37, 0, 243, 2);
    }
}
