/** The boundary cases of promises 1 to 3, a test for each sentence of the document that names one. */
public final class ModelEdgesTest {
    private static final int M = Field.M;
    private static final int[] NO_NUMBERS = {-1, Integer.MIN_VALUE, Integer.MAX_VALUE};
    private static final int[] AT_FIRST = {1, 0, 0, 1, 0, 0, 0};

    public static void main(String[] args) {
        Check.runPromises(ModelEdgesTest.class, 1, 3);
    }

    private static Bench models(int count) {
        Bench f = new Bench();
        for (int model = 0; model < count; model++) {
            f.answers(model, "model");
        }
        return f;
    }

    /** The model 0 and the estimator 0: x 4, 5 and P 2, 0, 3, at rest. */
    private static Bench resting() {
        Bench f = models(1);
        f.answers(0, "begin", 0, 4, 5, 2, 0, 3);
        return f;
    }

    /** "No models and estimators." */
    static void promise1NoModels() {
        Bench f = new Bench();
        for (int number : new int[] {0, 1, 5, 6, -1}) {
            f.refuses(Bench.INDEX, "entry", number, 0, 0);
            f.refuses(Bench.INDEX, "begin", number, 0, 0, 0, 0, 0);
        }
    }

    /** "No models and estimators." */
    static void promise1NoEstimators() {
        for (Bench f : new Bench[] {new Bench(), models(6)}) {
            for (int call = 3; call < Calls.NAMES.length; call++) {
                for (int number : new int[] {0, 1, 5, 6, -1}) {
                    int[] arguments = new int[Calls.COUNTS[call]];
                    arguments[0] = number;
                    f.refuses(Bench.INDEX, Calls.NAMES[call], arguments);
                }
            }
        }
    }

    /** All numbers begin at 0 on a new object, whatever another one was told. */
    static void promise1EveryObjectBeginsAnew() {
        Bench full = models(6);
        full.answers(0, "begin", 5, 1, 2, 3, 4, 5);
        Bench f = new Bench();
        f.refuses(Bench.INDEX, "entry", 0, 0, 0);
        f.answers(0, "model");
        f.refuses(Bench.INDEX, "of", 0, 5);
        f.answers(0, "begin", 0, 4, 5, 2, 0, 3);
        f.answers(0, "of", 0, 5);
        f.answers(0, "of", 0, 6);
        f.answers(0, "measure", 0, 1, 0, 10, M - 1);
        f.answers(1, "predict", 0);
        full.state(0, 1, 2, 3, 4, 5, 0, 0, 0, M - 1);
    }

    /** "An object is used for at most 512 calls after it has been made": the last of them is one like all others. */
    static void promise1TheLastOf512Calls() {
        lastAnswers(1, "model");
        lastAnswers(1, "entry", 0, 0, 7);
        lastAnswers(1, "begin", 0, 1, 1, 1, 1, 1);
        lastAnswers(10006, "gate", 0, 7);
        lastAnswers(1, "predict", 0);
        lastAnswers(1, "measure", 0, 1, 0, 10, 3);
        lastAnswers(1, "late", 0, 0, 1, 0, 10, 3);
        lastAnswers(0, "drop", 0, 0);
        lastAnswers(16, "of", 0, 0);
        lastAnswers(36, "ofMeasurement", 0, 0, 3);
        lastAnswers(M - 2, "gain", 0, 1, 0, 3, 0);
        lastAnswers(Field.inverse(3), "information", 0, 4);
        lastAnswers(16, "anew", 0, 0);
        lastAnswers(16, "smoothed", 0, 0, 0);
        lastAnswers(16, "ahead", 0, 1000000000, 0);
        lastAnswers(16, "aheadAnew", 0, 200, 0);
    }

    private static void lastAnswers(int due, String name, int... arguments) {
        Bench f = resting();
        f.answers(0, "measure", 0, 1, 0, 10, M - 1);
        while (f.calls() < 511) {
            f.answers(5, "of", 0, 1);
        }
        f.answers(due, name, arguments);
        Check.that("it was the call " + f.calls(), f.calls() == 512);
    }

    /** "Models are numbered from 0, at most 6"; "Throws IllegalStateException if there are 6". */
    static void promise2SixAndNoSeventh() {
        Bench f = models(6);
        f.refuses(Bench.STATE, "model");
        f.refuses(Bench.STATE, "model");
        for (int model = 0; model < 6; model++) {
            f.answers(0, "entry", model, FieldFilter.Q11, 20 + model);
        }
        f.refuses(Bench.STATE, "model");
        f.refuses(Bench.INDEX, "entry", 6, 0, 0);
        for (int model = 0; model < 6; model++) {
            f.answers(20 + model, "entry", model, FieldFilter.Q11, 0);
        }
    }

    /** "F ... with 1, 0 and 0, 1 at first, and Q likewise, with 0 at first": of each of the six. */
    static void promise2AtFirst() {
        Bench f = models(6);
        for (int model = 0; model < 6; model++) {
            for (int entry = 0; entry < 7; entry++) {
                f.answers(AT_FIRST[entry], "entry", model, entry, M - 1);
            }
        }
    }

    /** A model that was made later is at first like the others, whatever these have become. */
    static void promise2AtFirstBehindOthers() {
        Bench f = models(5);
        for (int model = 0; model < 5; model++) {
            f.entries(model, 9, 9, 9, 9, 9, 9, 9);
        }
        f.answers(5, "model");
        for (int entry = 0; entry < 7; entry++) {
            f.answers(AT_FIRST[entry], "entry", 5, entry, AT_FIRST[entry]);
        }
        f.answers(0, "begin", 5, 4, 5, 2, 0, 3);
        f.does("predict", 0);
        f.state(0, 4, 5, 2, 0, 3);
    }

    /** "Throws IndexOutOfBoundsException if there is no such model": next to those there are, and far off. */
    static void promise3NoSuchModel() {
        for (int count = 0; count <= 6; count++) {
            Bench f = models(count);
            for (int number : NO_NUMBERS) {
                f.refuses(Bench.INDEX, "entry", number, 0, 0);
            }
            f.refuses(Bench.INDEX, "entry", count, 0, 0);
            if (count > 0) {
                f.answers(1, "entry", count - 1, 0, 5);
                f.refuses(Bench.INDEX, "entry", count, 0, 0);
                f.answers(5, "entry", count - 1, 0, 5);
            }
        }
    }

    /** "entry: F00 to Q11"; "IllegalArgumentException if entry ... is out of range". */
    static void promise3EntryAtItsEnds() {
        Bench f = models(1);
        f.answers(1, "entry", 0, 0, 70);
        f.answers(0, "entry", 0, 6, 76);
        for (int entry : new int[] {-1, 7, Integer.MIN_VALUE, Integer.MAX_VALUE}) {
            f.refuses(Bench.ARGUMENT, "entry", 0, entry, 3);
        }
        f.answers(70, "entry", 0, 0, 0);
        f.answers(76, "entry", 0, 6, 0);
    }

    /** "value: of the FIELD"; "IllegalArgumentException if ... value is out of range": for every entry. */
    static void promise3ValueAtItsEnds() {
        Bench f = models(1);
        for (int entry = 0; entry < 7; entry++) {
            f.answers(AT_FIRST[entry], "entry", 0, entry, 0);
            f.refusesOutside(2, "entry", 0, entry, 5);
            f.answers(0, "entry", 0, entry, M - 1);
            f.refusesOutside(2, "entry", 0, entry, 5);
            f.answers(M - 1, "entry", 0, entry, M - 1);
        }
    }

    /** "Returns what it was": at first, as it was told last, and not what was refused. */
    static void promise3ReturnsWhatItWas() {
        Bench f = models(2);
        for (int entry = 0; entry < 7; entry++) {
            f.answers(AT_FIRST[entry], "entry", 0, entry, 500 + entry);
            f.refuses(Bench.ARGUMENT, "entry", 0, entry, M);
        }
        for (int entry = 0; entry < 7; entry++) {
            f.answers(500 + entry, "entry", 0, entry, 500 + entry);
            f.answers(500 + entry, "entry", 0, entry, 0);
            f.answers(AT_FIRST[entry], "entry", 1, entry, 0);
        }
    }

    /** "The one that is named first in the throws clause is thrown." */
    static void promise3NoModelIsNamedFirst() {
        Bench f = models(1);
        for (int wrong : Field.OUTSIDE) {
            f.refuses(Bench.INDEX, "entry", 1, wrong, wrong);
            f.refuses(Bench.INDEX, "entry", -1, 0, wrong);
            f.refuses(Bench.INDEX, "entry", 1, wrong, 0);
        }
    }

    /** "Q likewise ..., of which both numbers beside the diagonal are the same": Q01 stands there twice. */
    static void promise3BothBesideTheDiagonal() {
        Bench f = models(1);
        f.entries(0, 1, 0, 0, 1, 0, M - 1, 0);
        f.answers(0, "begin", 0, 0, 0, 0, 0, 0);
        f.does("predict", 0);
        f.state(0, 0, 0, 0, M - 1, 0, 1, 0, 0, M - 1);
        f.answers(M - 1, "gain", 0, 1, 0, 1, 1);
        f.answers(M - 1, "gain", 0, 0, 1, 1, 0);
    }

    /** "By rows and columns": every entry alone, at its highest, stands where it is said to. */
    static void promise3WhereEachEntryStands() {
        int[][] xBehind = {{M - 2, 0}, {M - 3, 0}, {0, M - 2}, {0, M - 3}, {0, 0}, {0, 0}, {0, 0}};
        int[][] pBehind = {{5, 0, 0}, {11, 0, 0}, {0, 0, 5}, {0, 0, 11}, {M - 1, 0, 0}, {0, M - 1, 0}, {0, 0, M - 1}};
        for (int entry = 0; entry < 7; entry++) {
            Bench f = models(1);
            f.entries(0, 0, 0, 0, 0, 0, 0, 0);
            f.does("entry", 0, entry, M - 1);
            f.answers(0, "begin", 0, 2, 3, 5, 7, 11);
            f.does("predict", 0);
            f.state(0, xBehind[entry][0], xBehind[entry][1], pBehind[entry][0], pBehind[entry][1], pBehind[entry][2]);
        }
    }
}
