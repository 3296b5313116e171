import java.util.Arrays;
import java.util.Random;

/** Long runs of calls, drawn from fixed seeds, on FieldFilter and PlainFilter: every answer must be the same. */
public final class AgreementTest {
    private static final int RUNS = 1500;
    private static final int CALLS = 512;
    private static final String[] NAMES = Calls.NAMES;
    private static final int[] COUNTS = Calls.COUNTS;
    // Odds of each call, so that estimators live long and are asked much.
    private static final int[] ODDS = {2, 6, 5, 4, 8, 14, 16, 8, 14, 14, 6, 6, 8, 8, 6, 3};

    private final Random random;
    private final boolean tame;

    private AgreementTest(long seed) {
        random = new Random(seed);
        tame = seed % 2 == 0;
    }

    public static void main(String[] args) {
        int[] thrown = new int[NAMES.length];
        int[] answered = new int[NAMES.length];
        for (int seed = 0; seed < RUNS; seed++) {
            new AgreementTest(seed).run(seed, answered, thrown);
        }
        for (int name = 0; name < NAMES.length; name++) {
            Check.that(NAMES[name] + " was seldom answered: " + answered[name], answered[name] > RUNS);
            Check.that(NAMES[name] + " was seldom refused: " + thrown[name], thrown[name] > RUNS / 3);
        }
        Check.close("AgreementTest");
    }

    private void run(int seed, int[] answered, int[] thrown) {
        FieldFilter filter = new FieldFilter();
        PlainFilter plain = new PlainFilter();
        StringBuilder before = new StringBuilder();
        for (int call = 0; call < CALLS; call++) {
            int name = call == 0 ? 0 : call < 6 ? 1 : call == 6 ? 2 : draw();
            int[] a = arguments(name, plain);
            String due = Check.outcome(() -> askPlain(plain, name, a));
            String got = Check.outcome(() -> Calls.ask(filter, NAMES[name], a));
            before.append(NAMES[name]).append(Arrays.toString(a)).append(" = ").append(got).append('\n');
            if (due.startsWith("throws.")) {
                thrown[name]++;
            } else {
                answered[name]++;
            }
            if (!due.equals(got)) {
                Check.that("seed " + seed + ", due is " + due + ":\n" + before, false);
                return;
            }
        }
        Check.that("run", true);
    }

    private int draw() {
        int sum = 0;
        for (int odd : ODDS) {
            sum += odd;
        }
        int rest = random.nextInt(sum);
        int name = 0;
        while (rest >= ODDS[name]) {
            rest -= ODDS[name];
            name++;
        }
        return name;
    }

    private int[] arguments(int name, PlainFilter plain) {
        int[] a = new int[COUNTS[name]];
        for (int i = 0; i < a.length; i++) {
            a[i] = number();
        }
        if (a.length == 0) {
            return a;
        }
        a[0] = below(name == 1 || name == 2 ? plain.models.size() : plain.begun.size());
        PlainFilter.Begun e = name > 2 && a[0] >= 0 && a[0] < plain.begun.size() ? plain.begun.get(a[0]) : null;
        int time = e == null ? 3 : e.time;
        int told = e == null ? 3 : e.told.size();
        switch (NAMES[name]) {
            case "entry": a[1] = below(7); break;
            case "late": a[1] = below(time + 1); break;
            case "drop": a[1] = below(told); break;
            case "of": a[1] = below(9); break;
            case "ofMeasurement": a[1] = below(told); a[2] = below(5); break;
            case "gain": a[4] = below(2); break;
            case "information": case "anew": a[1] = below(5); break;
            case "smoothed": a[1] = below(time + 1); a[2] = below(2); break;
            case "ahead": a[1] = random.nextInt(1 << random.nextInt(30)) + random.nextInt(2); a[2] = below(5); break;
            case "aheadAnew": a[1] = below(201); a[2] = below(5); break;
            default: break;
        }
        if (random.nextInt(60) == 0) {
            int[] wild = {-1, Integer.MIN_VALUE, Integer.MAX_VALUE, 10007, 10008, 1000000000, 1000000001, 201, 20, 30};
            a[random.nextInt(a.length)] = wild[random.nextInt(wild.length)];
        }
        return a;
    }

    private int below(int count) {
        int slip = random.nextInt(80);
        if (slip == 0) {
            return -1;
        }
        return slip == 1 || count == 0 ? count : random.nextInt(count);
    }

    /** Small numbers often, as it is they that make S 0 and P not INVERTIBLE. */
    private int number() {
        int kind = random.nextInt(tame ? 6 : 12);
        if (kind < 2) {
            return random.nextInt(3);
        }
        if (kind == 2) {
            return 10006 - random.nextInt(3);
        }
        return tame && kind == 3 ? 0 : random.nextInt(10007);
    }

    private static long askPlain(PlainFilter f, int name, int[] a) {
        switch (NAMES[name]) {
            case "model": return f.model();
            case "entry": return f.entry(a[0], a[1], a[2]);
            case "begin": return f.begin(a[0], a[1], a[2], a[3], a[4], a[5]);
            case "gate": return f.gate(a[0], a[1]);
            case "predict": return f.predict(a[0]);
            case "measure": return f.measure(a[0], a[1], a[2], a[3], a[4]);
            case "late": return f.late(a[0], a[1], a[2], a[3], a[4], a[5]);
            case "drop": f.drop(a[0], a[1]); return 0;
            case "of": return f.of(a[0], a[1]);
            case "ofMeasurement": return f.ofMeasurement(a[0], a[1], a[2]);
            case "gain": return f.gain(a[0], a[1], a[2], a[3], a[4]);
            case "information": return f.information(a[0], a[1]);
            case "anew": return f.anew(a[0], a[1]);
            case "smoothed": return f.smoothed(a[0], a[1], a[2]);
            case "ahead": return f.ahead(a[0], a[1], a[2]);
            default: return f.aheadAnew(a[0], a[1], a[2]);
        }
    }
}
