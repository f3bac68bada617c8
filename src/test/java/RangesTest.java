import java.util.Arrays;

/**
 * Each call with every mixture of its arguments: at both ends of their ranges, one beyond each end, and
 * far beyond. A call that is to be refused throws the one exception that is due and changes nothing; any
 * other one answers and changes what the model does.
 */
final class RangesTest {
    private interface Asked {
        long on(ToneRows rows, int[] arguments);
    }

    private interface Meant {
        long on(Model model, int[] arguments);
    }

    /** The values of an argument to try, and what is thrown for one that is out of its range. */
    private record Range(Class<?> refusal, int[] good, int[] bad) {
        int count() {
            return good.length + bad.length;
        }

        int value(int i) {
            return i < good.length ? good[i] : bad[i - good.length];
        }

        boolean refuses(int value) {
            return Arrays.stream(bad).anyMatch(b -> b == value);
        }
    }

    /** What an object is before the call. */
    private record State(String name, int[] first, int[] second, int[] phrase) {
        ToneRows rows() {
            return Rows.written(Rows.of(first, second), phrase);
        }

        Model model() {
            return Model.of(first, second, phrase);
        }
    }

    private static final Class<?> OUT = IndexOutOfBoundsException.class;
    private static final Class<?> ARGUMENT = IllegalArgumentException.class;

    private static final Range ROW = new Range(OUT, new int[] {0, 1}, Rows.NO_ROW);
    private static final Range PLACE = new Range(OUT, new int[] {0, 11}, Rows.NOT_0_TO_11);
    private static final Range FIRST_PLACE = new Range(OUT, new int[] {0}, Rows.NOT_0_TO_11);
    private static final Range PLACE_BEFORE = new Range(OUT, new int[] {0, 10},
            new int[] {-1, 11, 12, Integer.MIN_VALUE, Integer.MAX_VALUE});
    private static final Range TONE = new Range(ARGUMENT, new int[] {0, 11}, Rows.NOT_0_TO_11);
    private static final Range KIND = new Range(ARGUMENT, new int[] {0, 1, 2, 3}, Rows.NOT_0_TO_3);
    private static final Range CODE = new Range(ARGUMENT, new int[] {0, 11, 12, 23, 24, 35, 36, 47},
            Rows.NOT_0_TO_47);
    private static final Range FACTOR = new Range(ARGUMENT, new int[] {1, 5, 7, 11},
            new int[] {-1, 0, 2, 3, 4, 6, 8, 9, 10, 12, 13, Integer.MIN_VALUE, Integer.MAX_VALUE});
    private static final Range SIZE = new Range(ARGUMENT, new int[] {1, 2, 3, 4, 6, 12},
            new int[] {-1, 0, 5, 7, 8, 9, 10, 11, 13, Integer.MIN_VALUE, Integer.MAX_VALUE});
    private static final Range SET = new Range(ARGUMENT, new int[] {0, 1, 2048, 4095}, Rows.NO_SET);
    private static final Range PAIR = new Range(ARGUMENT, new int[] {1, 6},
            new int[] {-1, 0, 7, 12, Integer.MIN_VALUE, Integer.MAX_VALUE});
    private static final Range LENGTH = new Range(ARGUMENT, new int[] {1, 12}, Rows.NO_LENGTH);
    private static final Range MIDDLE_LENGTH = new Range(ARGUMENT, new int[] {2, 11},
            new int[] {-1, 0, 1, 12, 13, Integer.MIN_VALUE, Integer.MAX_VALUE});

    private static final State[] STATES = {
        new State("a new object", Rows.ASCENDING, Rows.ASCENDING, new int[] {}),
        new State("used rows", Rows.PIECE, Rows.CONCERTO, new int[] {7, 2, 9}),
        new State("a full phrase", Rows.SYMPHONY, Rows.LYRIC, Rows.LYRIC)
    };

    private RangesTest() {
    }

    static void run() {
        rows();
        forms();
        sets();
        kept();
        phrase();
    }

    private static void rows() {
        mix("2: put", (x, a) -> x.put(a[0], a[1], a[2]), (m, a) -> m.put(a[0], a[1], a[2]), ROW, PLACE, TONE);
        mix("3: take", (x, a) -> x.take(a[0], a[1], a[2], a[3]), (m, a) -> m.take(a[0], a[1], a[2], a[3]),
                ROW, KIND, TONE, ROW);
        mix("4: multiply", (x, a) -> x.multiply(a[0], a[1]), (m, a) -> m.multiply(a[0], a[1]), ROW, FACTOR);
        mix("5: rotate", (x, a) -> x.rotate(a[0], a[1]), (m, a) -> m.rotate(a[0], a[1]), ROW, TONE);
        mix("6: tone", (x, a) -> x.tone(a[0], a[1]), (m, a) -> m.tone(a[0], a[1]), ROW, PLACE);
        mix("7: interval", (x, a) -> x.interval(a[0], a[1]), (m, a) -> m.interval(a[0], a[1]), ROW, PLACE_BEFORE);
        mix("8: hasAllIntervals", (x, a) -> x.hasAllIntervals(a[0]) ? 1 : 0,
                (m, a) -> m.hasAllIntervals(a[0]) ? 1 : 0, ROW);
    }

    private static void forms() {
        mix("9: toneOf", (x, a) -> x.toneOf(a[0], a[1], a[2], a[3]), (m, a) -> m.toneOf(a[0], a[1], a[2], a[3]),
                ROW, KIND, TONE, PLACE);
        mix("10: matrix", (x, a) -> x.matrix(a[0], a[1], a[2]), (m, a) -> m.matrix(a[0], a[1], a[2]),
                ROW, PLACE, PLACE);
        mix("11: differentForms", (x, a) -> x.differentForms(a[0]), (m, a) -> m.differentForms(a[0]), ROW);
        mix("12: formOfOther", (x, a) -> x.formOfOther(a[0]), (m, a) -> m.formOfOther(a[0]), ROW);
    }

    /** Where a segment goes beyond place 11 hangs on its place too: SetEdgesTest has that. */
    private static void sets() {
        mix("13: segment", (x, a) -> x.segment(a[0], a[1], a[2]), (m, a) -> m.segment(a[0], a[1], a[2]),
                ROW, FIRST_PLACE, LENGTH);
        mix("14: classOf", (x, a) -> x.classOf(a[0]), (m, a) -> Model.classOf(a[0]), SET);
        mix("15: pairs", (x, a) -> x.pairs(a[0], a[1]), (m, a) -> Model.pairs(a[0], a[1]), SET, PAIR);
        mix("16: combining", (x, a) -> x.combining(a[0]), (m, a) -> m.combining(a[0]), ROW);
        mix("17: isDerived", (x, a) -> x.isDerived(a[0], a[1]) ? 1 : 0,
                (m, a) -> m.isDerived(a[0], a[1]) ? 1 : 0, ROW, SIZE);
    }

    private static void kept() {
        mix("18: keptSets", (x, a) -> x.keptSets(a[0], a[1], a[2], a[3]),
                (m, a) -> m.keptSets(a[0], a[1], a[2], a[3]), ROW, KIND, TONE, LENGTH);
        mix("19: longestKept", (x, a) -> x.longestKept(a[0], a[1], a[2]),
                (m, a) -> m.longestKept(a[0], a[1], a[2]), ROW, KIND, TONE);
        mix("20: mostKept", (x, a) -> x.mostKept(a[0], a[1]), (m, a) -> m.mostKept(a[0], a[1]),
                ROW, MIDDLE_LENGTH);
        mix("21: cuts", (x, a) -> x.cuts(a[0], a[1]), (m, a) -> m.cuts(a[0], a[1]), CODE, CODE);
    }

    /** A tone that the phrase has already hangs on the state too: PhraseEdgesTest has write. */
    private static void phrase() {
        mix("23: erase", (x, a) -> x.erase(), (m, a) -> m.erase());
        mix("24: formsWithPhrase", (x, a) -> x.formsWithPhrase(a[0]), (m, a) -> m.formsWithPhrase(a[0]), ROW);
        mix("25: placeOfPhrase", (x, a) -> x.placeOfPhrase(a[0], a[1]), (m, a) -> m.placeOfPhrase(a[0], a[1]),
                ROW, CODE);
        mix("26: complete", (x, a) -> x.complete(a[0]), (m, a) -> m.complete(a[0]), ROW);
    }

    private static void mix(String promise, Asked asked, Meant meant, Range... ranges) {
        Check.promise(promise + ": at and beyond the ends");
        int mixtures = 1;
        for (Range range : ranges) {
            mixtures *= range.count();
        }
        for (int mixture = 0; mixture < mixtures; mixture++) {
            int[] arguments = new int[ranges.length];
            int rest = mixture;
            for (int i = 0; i < ranges.length; i++) {
                arguments[i] = ranges[i].value(rest % ranges[i].count());
                rest /= ranges[i].count();
            }
            for (State state : STATES) {
                call(Arrays.toString(arguments) + " on " + state.name(), state, asked, meant, arguments,
                        refusal(ranges, arguments));
            }
        }
    }

    private static void call(String what, State state, Asked asked, Meant meant, int[] arguments, Class<?> refusal) {
        ToneRows rows = state.rows();
        if (refusal != null) {
            Check.refusal(what, refusal, x -> asked.on(x, arguments), rows, state.rows());
            return;
        }
        Model model = state.model();
        Check.due(what, asked.on(rows, arguments), meant.on(model, arguments));
        Check.due("what " + what + " leaves", Rows.read(rows), model.read());
    }

    /** What is due to be thrown, or null: the IndexOutOfBoundsException goes before the other one. */
    private static Class<?> refusal(Range[] ranges, int[] arguments) {
        Class<?> refusal = null;
        for (int i = 0; i < ranges.length; i++) {
            if (ranges[i].refuses(arguments[i]) && refusal != OUT) {
                refusal = ranges[i].refusal();
            }
        }
        return refusal;
    }
}
