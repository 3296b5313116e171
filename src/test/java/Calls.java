/** The calls of FieldFilter by their names, so that a run of calls can be kept and told again. */
final class Calls {
    static final String[] NAMES = {"model", "entry", "begin", "gate", "predict", "measure", "late", "drop", "of",
        "ofMeasurement", "gain", "information", "anew", "smoothed", "ahead", "aheadAnew"};
    /** How many arguments each takes. */
    static final int[] COUNTS = {0, 3, 6, 2, 1, 5, 6, 2, 2, 3, 5, 2, 2, 3, 3, 3};

    private Calls() {
    }

    static int count(String name) {
        for (int call = 0; call < NAMES.length; call++) {
            if (NAMES[call].equals(name)) {
                return COUNTS[call];
            }
        }
        throw new AssertionError("no call is named " + name);
    }

    /** What the call answers; a drop that is not refused answers 0. */
    static long ask(FieldFilter f, String name, int... a) {
        if (a.length != count(name)) {
            throw new AssertionError(name + " with " + a.length + " arguments");
        }
        switch (name) {
            case "model": return f.model();
            case "entry": return f.entry(a[0], a[1], a[2]);
            case "begin": return f.begin(a[0], a[1], a[2], a[3], a[4], a[5]);
            case "gate": return f.gate(a[0], a[1]);
            case "predict": return f.predict(a[0]);
            case "measure": return f.measure(a[0], a[1], a[2], a[3], a[4]);
            case "late": return f.late(a[0], a[1], a[2], a[3], a[4], a[5]);
            case "drop": f.drop(a[0], a[1]); return 0;
            case "of": return f.of(a[0], a[1]);
            case "ofMeasurement": return f.ofMeasurement(a[0], a[1], a[2]);
            case "gain": return f.gain(a[0], a[1], a[2], a[3], a[4]);
            case "information": return f.information(a[0], a[1]);
            case "anew": return f.anew(a[0], a[1]);
            case "smoothed": return f.smoothed(a[0], a[1], a[2]);
            case "ahead": return f.ahead(a[0], a[1], a[2]);
            default: return f.aheadAnew(a[0], a[1], a[2]);
        }
    }
}
