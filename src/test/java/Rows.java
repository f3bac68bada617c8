import java.util.ArrayList;
import java.util.List;

/** Rows known from music, objects that hold them, and what an object holds and shows. */
final class Rows {
    static final int[] ASCENDING = {0, 1, 2, 3, 4, 5, 6, 7, 8, 9, 10, 11};
    /** Berg, Lyric Suite: all eleven intervals; its own retrograde. */
    static final int[] LYRIC = {5, 4, 0, 9, 7, 2, 8, 1, 3, 6, 10, 11};
    /** Webern, Concerto op. 24: derived from one set of three tones. */
    static final int[] CONCERTO = {11, 10, 2, 3, 7, 6, 8, 4, 5, 0, 1, 9};
    /** Schoenberg, Piano Piece op. 33a: combines with the inversion that begins five above. */
    static final int[] PIECE = {10, 5, 0, 11, 9, 6, 1, 3, 7, 8, 2, 4};
    /** Webern, Symphony op. 21: its own retrograde, six away. */
    static final int[] SYMPHONY = {9, 6, 7, 8, 4, 5, 11, 10, 2, 1, 0, 3};

    static final int[] NO_ROW = {-1, 2, 12, Integer.MIN_VALUE, Integer.MAX_VALUE};
    static final int[] NOT_0_TO_11 = {-1, 12, 16, 32, Integer.MIN_VALUE, Integer.MAX_VALUE};
    static final int[] NOT_0_TO_3 = {-1, 4, 12, Integer.MIN_VALUE, Integer.MAX_VALUE};
    static final int[] NOT_0_TO_47 = {-1, 48, 64, Integer.MIN_VALUE, Integer.MAX_VALUE};
    static final int[] NO_SET = {-1, 4096, Integer.MIN_VALUE, Integer.MAX_VALUE};
    static final int[] NO_LENGTH = {-1, 0, 13, Integer.MIN_VALUE, Integer.MAX_VALUE};

    private Rows() {
    }

    static void fill(ToneRows rows, int row, int[] tones) {
        for (int place = 0; place < 12; place++) {
            rows.put(row, place, tones[place]);
        }
    }

    static ToneRows of(int[] first) {
        return of(first, ASCENDING);
    }

    static ToneRows of(int[] first, int[] second) {
        ToneRows rows = new ToneRows();
        fill(rows, 0, first);
        fill(rows, 1, second);
        return rows;
    }

    static ToneRows written(ToneRows rows, int... tones) {
        for (int tone : tones) {
            rows.write(tone);
        }
        return rows;
    }

    /** Two rows that differ, and a phrase of three tones without the tones 0, 1 and 11. */
    static ToneRows used() {
        return written(of(PIECE, CONCERTO), 7, 2, 9);
    }

    static ToneRows withFullPhrase() {
        return written(of(SYMPHONY, LYRIC), 3, 1, 4, 0, 5, 9, 2, 6, 8, 7, 11, 10);
    }

    static List<Integer> tones(ToneRows rows, int row) {
        List<Integer> tones = new ArrayList<>();
        for (int place = 0; place < 12; place++) {
            tones.add(rows.tone(row, place));
        }
        return tones;
    }

    static List<Integer> list(int... tones) {
        List<Integer> list = new ArrayList<>();
        for (int tone : tones) {
            list.add(tone);
        }
        return list;
    }

    /** All that an object holds; it is of no use afterwards. */
    static String read(ToneRows rows) {
        String both = tones(rows, 0) + " " + tones(rows, 1);
        rows.complete(0);
        List<Integer> begin = tones(rows, 0);
        return both + " phrase " + begin.subList(0, rows.erase());
    }

    /** What an object holds, and what its calls answer; it is of no use afterwards. */
    static String readAndAsk(ToneRows rows) {
        StringBuilder told = new StringBuilder();
        for (int row = 0; row < 2; row++) {
            told.append(rows.hasAllIntervals(row)).append(' ').append(rows.differentForms(row));
            told.append(' ').append(rows.formOfOther(row)).append(' ').append(rows.combining(row));
            told.append(' ').append(rows.toneOf(row, ToneRows.INVERSION, 2, 7));
            told.append(' ').append(rows.matrix(row, 3, 8)).append(' ').append(rows.interval(row, 10));
            told.append(' ').append(rows.segment(row, 2, 5)).append(' ').append(rows.isDerived(row, 3));
            told.append(' ').append(rows.keptSets(row, ToneRows.RETROGRADE_INVERSION, 4, 2));
            told.append(' ').append(rows.longestKept(row, ToneRows.RETROGRADE, 9));
            told.append(' ').append(rows.mostKept(row, 3)).append(' ').append(rows.formsWithPhrase(row));
            told.append(' ').append(rows.placeOfPhrase(row, 0)).append(' ');
        }
        told.append(rows.cuts(0, 23)).append(' ').append(rows.classOf(145)).append(' ').append(rows.pairs(145, 3));
        return told.append(' ').append(read(rows)).toString();
    }

    static long bits(int... numbers) {
        long set = 0;
        for (int number : numbers) {
            set |= 1L << number;
        }
        return set;
    }

    static int set(int... tones) {
        return (int) bits(tones);
    }
}
