import java.util.ArrayList;
import java.util.Arrays;
import java.util.List;

/**
 * A FieldFilter under test, with what it was told. Of a call that is refused, and of a question, it shows that nothing
 * has changed: all that can be seen of a second object with that call is what is seen of a third one without it.
 */
final class Bench {
    static final String INDEX = "IndexOutOfBoundsException";
    static final String ARGUMENT = "IllegalArgumentException";
    static final String STATE = "IllegalStateException";

    private static final int MOST_CALLS = 512;

    private static final class Call {
        final String name;
        final int[] arguments;

        Call(String name, int[] arguments) {
            this.name = name;
            this.arguments = arguments.clone();
        }

        @Override
        public String toString() {
            String list = Arrays.toString(arguments);
            return name + "(" + list.substring(1, list.length() - 1) + ")";
        }
    }

    private final FieldFilter filter = new FieldFilter();
    private final List<Call> told = new ArrayList<>();
    private int calls;
    private String seen;

    /** The 512 calls after which answers are free are counted: no test may lean on more. */
    private String outcome(Call call) {
        calls++;
        if (calls > MOST_CALLS) {
            throw new AssertionError("a test makes over 512 calls of one object");
        }
        return Check.outcome(() -> Calls.ask(filter, call.name, call.arguments));
    }

    private String outcome(String name, int... arguments) {
        return outcome(new Call(name, arguments));
    }

    int calls() {
        return calls;
    }

    // ---- what a test tells and asks

    /** Must answer what is due. */
    Bench answers(long due, String name, int... arguments) {
        Call call = new Call(name, arguments);
        String got = outcome(call);
        Check.that(call + " answered " + got + ", due is " + due + shown(), got.equals(Long.toString(due)));
        keep(call);
        return this;
    }

    /** Must not be refused; answers what it answered. */
    int does(String name, int... arguments) {
        Call call = new Call(name, arguments);
        String got = outcome(call);
        boolean refused = got.startsWith("throws.");
        Check.that(call + " answered " + got + shown(), !refused);
        keep(call);
        return refused ? 0 : Integer.parseInt(got);
    }

    private void keep(Call call) {
        told.add(call);
        seen = null;
    }

    /** Must throw this, and change nothing. */
    void refuses(String exception, String name, int... arguments) {
        Call call = new Call(name, arguments);
        String got = outcome(call);
        Check.that(call + " answered " + got + ", due is throws." + exception + shown(),
                got.equals("throws." + exception));
        changesNothing(name, arguments);
    }

    /** Whatever it answers; also at once, as what can be seen is looked at on objects of their own. */
    void changesNothing(String name, int... arguments) {
        Call call = new Call(name, arguments);
        if (seen == null) {
            seen = seen(told);
        }
        List<Call> with = new ArrayList<>(told);
        with.add(call);
        String now = seen(with);
        Check.that(call + " has changed something" + shown() + difference(seen, now), seen.equals(now));
    }

    /** Every argument of the call from the first on, put outside the FIELD, is refused. */
    void refusesOutside(int first, String name, int... arguments) {
        for (int argument = first; argument < arguments.length; argument++) {
            for (int value : Field.OUTSIDE) {
                int[] wrong = arguments.clone();
                wrong[argument] = value;
                refuses(ARGUMENT, name, wrong);
            }
        }
    }

    /** The numbers 0 and so on of an estimator. */
    void state(int estimator, int... due) {
        for (int what = 0; what < due.length; what++) {
            answers(due[what], "of", estimator, what);
        }
    }

    /** The numbers 0 and so on of a measurement. */
    void measurement(int estimator, int measurement, int... due) {
        for (int what = 0; what < due.length; what++) {
            answers(due[what], "ofMeasurement", estimator, measurement, what);
        }
    }

    /** The entries of a model, F00 to Q11, told. */
    void entries(int model, int... values) {
        for (int entry = 0; entry < values.length; entry++) {
            does("entry", model, entry, values[entry]);
        }
    }

    /** A second one that was told the same. */
    Bench again() {
        return again(told);
    }

    private static Bench again(List<Call> calls) {
        Bench other = new Bench();
        for (Call call : calls) {
            other.outcome(call);
        }
        other.told.addAll(calls);
        return other;
    }

    // ---- what can be seen

    private static String seen(List<Call> calls) {
        StringBuilder text = new StringBuilder();
        for (int estimator = 0; estimator <= 6; estimator++) {
            again(calls).seeEstimator(estimator, text);
        }
        again(calls).seeModels(text);
        again(calls).seeWhatFollows(text);
        return text.toString();
    }

    private String see(StringBuilder text, String name, int... arguments) {
        Call call = new Call(name, arguments);
        String got = outcome(call);
        text.append(call).append(" = ").append(got).append('\n');
        return got;
    }

    private void seeEstimator(int estimator, StringBuilder text) {
        String time = see(text, "of", estimator, 5);
        if (time.startsWith("throws.")) {
            return;
        }
        for (int what = 0; what < 9; what++) {
            see(text, "of", estimator, what);
        }
        for (int what = 0; what < 5; what++) {
            see(text, "information", estimator, what);
            see(text, "anew", estimator, what);
            see(text, "ahead", estimator, 3, what);
        }
        for (int t = 0; t <= Integer.parseInt(time); t++) {
            see(text, "smoothed", estimator, t, 0);
            see(text, "smoothed", estimator, t, 1);
        }
        see(text, "gain", estimator, 1, 2, 3, 0);
        see(text, "gain", estimator, 1, 2, 3, 1);
        for (int m = 0; m <= 30 && !see(text, "ofMeasurement", estimator, m, 0).startsWith("throws."); m++) {
            for (int what = 1; what < 5; what++) {
                see(text, "ofMeasurement", estimator, m, what);
            }
        }
    }

    /** To tell an entry or a gate is the only way to see it. */
    private void seeModels(StringBuilder text) {
        for (int model = 0; model <= 6; model++) {
            for (int entry = 0; entry < 7; entry++) {
                see(text, "entry", model, entry, 0);
            }
        }
        for (int estimator = 0; estimator <= 6; estimator++) {
            see(text, "gate", estimator, 0);
        }
    }

    /** Numbers and times that are given next show whether a refused call has used one up. */
    private void seeWhatFollows(StringBuilder text) {
        see(text, "model");
        see(text, "begin", 0, 1, 2, 3, 4, 5);
        for (int estimator = 0; estimator <= 6; estimator++) {
            see(text, "measure", estimator, 0, 0, 7, 1);
            see(text, "predict", estimator);
            see(text, "measure", estimator, 1, 1, 7, 1);
            for (int what = 0; what < 8; what++) {
                see(text, "of", estimator, what);
            }
        }
    }

    private static String difference(String before, String after) {
        String[] was = before.split("\n");
        String[] is = after.split("\n");
        for (int line = 0; line < was.length && line < is.length; line++) {
            if (!was[line].equals(is[line])) {
                return "\n  it was " + was[line] + "\n  and is " + is[line];
            }
        }
        return "";
    }

    private String shown() {
        return "\n  behind " + told;
    }
}
