/** Long runs of calls, each beside the model; and every set there is. */
final class ModelTest {
    private static final int RUNS = 400;
    private static final int CALLS = 512;
    private static final int[] SIZES = {1, 2, 3, 4, 6, 12};
    private static final int[] FACTORS = {1, 5, 7, 11};

    private long seed;

    private ModelTest(long seed) {
        this.seed = seed;
    }

    static void run() {
        everySet();
        Check.promise("beside the model");
        for (int run = 0; run < RUNS; run++) {
            new ModelTest(run).calls(run);
        }
    }

    private static void everySet() {
        Check.promise("14 and 15: every set");
        ToneRows x = new ToneRows();
        for (int set = 0; set < 4096; set++) {
            if (set % 64 == 0) {
                x = new ToneRows();
            }
            Check.due("the class of " + set, x.classOf(set), Model.classOf(set));
            for (int interval = 1; interval <= 6; interval++) {
                Check.due("the pairs of " + set + " by " + interval, x.pairs(set, interval),
                        Model.pairs(set, interval));
            }
        }
    }

    private void calls(int run) {
        ToneRows x = new ToneRows();
        Model model = new Model();
        // Without the call put, rows stay near to the ascending one, which keeps much.
        int first = run % 2;
        for (int call = 0; call < CALLS; call++) {
            step("run " + run + ", call " + call + ": ", x, model, first + below(25 - first));
        }
    }

    private int below(int bound) {
        seed = seed * 6364136223846793005L + 1442695040888963407L;
        return (int) ((seed >>> 33) % bound);
    }

    private void step(String where, ToneRows x, Model model, int which) {
        int row = below(2);
        int place = below(12);
        int tone = below(12);
        int kind = below(4);
        int code = below(48);
        int other = below(48);
        int length = 1 + below(12);
        switch (which) {
            case 0 -> same(where + "put", x.put(row, place, tone), model.put(row, place, tone));
            case 1 -> same(where + "take", x.take(row, kind, tone, place % 2), model.take(row, kind, tone, place % 2));
            case 2 -> same(where + "multiply", x.multiply(row, FACTORS[kind]), model.multiply(row, FACTORS[kind]));
            case 3 -> same(where + "rotate", x.rotate(row, place), model.rotate(row, place));
            case 4 -> same(where + "tone", x.tone(row, place), model.tone(row, place));
            case 5 -> same(where + "interval", x.interval(row, place % 11), model.interval(row, place % 11));
            case 6 -> same(where + "hasAllIntervals", x.hasAllIntervals(row) ? 1 : 0,
                    model.hasAllIntervals(row) ? 1 : 0);
            case 7 -> same(where + "toneOf", x.toneOf(row, kind, tone, place), model.toneOf(row, kind, tone, place));
            case 8 -> same(where + "matrix", x.matrix(row, tone, place), model.matrix(row, tone, place));
            case 9 -> same(where + "differentForms", x.differentForms(row), model.differentForms(row));
            case 10 -> same(where + "formOfOther", x.formOfOther(row), model.formOfOther(row));
            case 11 -> segment(where, x, model, row, place, length);
            case 12 -> same(where + "classOf", x.classOf(85 * code + other), Model.classOf(85 * code + other));
            case 13 -> same(where + "combining", x.combining(row), model.combining(row));
            case 14 -> same(where + "isDerived", x.isDerived(row, SIZES[place % 6]) ? 1 : 0,
                    model.isDerived(row, SIZES[place % 6]) ? 1 : 0);
            case 15 -> same(where + "keptSets", x.keptSets(row, kind, tone, length),
                    model.keptSets(row, kind, tone, length));
            case 16 -> same(where + "longestKept", x.longestKept(row, kind, tone), model.longestKept(row, kind, tone));
            case 17 -> mostKept(where, x, model, row, length);
            case 18 -> same(where + "cuts", x.cuts(code, other), model.cuts(code, other));
            case 19, 20 -> write(where, x, model, tone);
            case 21 -> erase(where, x, model, place);
            case 22 -> same(where + "formsWithPhrase", x.formsWithPhrase(row), model.formsWithPhrase(row));
            case 23 -> same(where + "placeOfPhrase", x.placeOfPhrase(row, code), model.placeOfPhrase(row, code));
            case 24 -> same(where + "complete", x.complete(row), model.complete(row));
            default -> throw new IllegalStateException("no such call");
        }
    }

    private static void same(String what, long got, long want) {
        Check.due(what, got, want);
    }

    private static void segment(String where, ToneRows x, Model model, int row, int place, int length) {
        int fits = Math.min(length, 12 - place);
        same(where + "segment", x.segment(row, place, fits), model.segment(row, place, fits));
    }

    private static void mostKept(String where, ToneRows x, Model model, int row, int length) {
        int inRange = Math.max(2, Math.min(length, 11));
        same(where + "mostKept", x.mostKept(row, inRange), model.mostKept(row, inRange));
    }

    private static void write(String where, ToneRows x, Model model, int tone) {
        if (model.phraseHas(tone)) {
            Check.due(where + "write", Check.thrownBy(r -> r.write(tone), x), IllegalStateException.class);
        } else {
            same(where + "write", x.write(tone), model.write(tone));
        }
    }

    /** Seldom, so that long phrases come up too. */
    private static void erase(String where, ToneRows x, Model model, int place) {
        if (place < 4) {
            same(where + "erase", x.erase(), model.erase());
        }
    }
}
