/** Promises 9 to 12. */
final class FormsTest {
    private FormsTest() {
    }

    static void run() {
        toneOf();
        matrix();
        differentForms();
        formOfOther();
    }

    private static void toneOf() {
        Check.promise("9: toneOf");
        ToneRows x = Rows.of(Rows.CONCERTO, Rows.PIECE);
        form(x, ToneRows.PRIME, 10, Rows.PIECE);
        form(x, ToneRows.PRIME, 0, 0, 7, 2, 1, 11, 8, 3, 5, 9, 10, 4, 6);
        form(x, ToneRows.INVERSION, 3, 3, 8, 1, 2, 4, 7, 0, 10, 6, 5, 11, 9);
        form(x, ToneRows.INVERSION, 11, 11, 4, 9, 10, 0, 3, 8, 6, 2, 1, 7, 5);
        form(x, ToneRows.RETROGRADE, 10, 4, 2, 8, 7, 3, 1, 6, 9, 11, 0, 5, 10);
        form(x, ToneRows.RETROGRADE_INVERSION, 3, 9, 11, 5, 6, 10, 0, 7, 4, 2, 1, 8, 3);
        for (int index = 0; index < 12; index++) {
            Check.due("the begin of PRIME " + index, x.toneOf(0, 0, index, 0), index);
            Check.due("the begin of INVERSION " + index, x.toneOf(0, 1, index, 0), index);
            Check.due("the end of RETROGRADE " + index, x.toneOf(0, 2, index, 11), index);
            Check.due("the end of RETROGRADE_INVERSION " + index, x.toneOf(0, 3, index, 11), index);
        }
        Check.onlyComputes("toneOf", r -> r.toneOf(0, 3, 4, 5));

        for (int row : Rows.NO_ROW) {
            Check.outOfBounds("toneOf of row " + row, r -> r.toneOf(row, 0, 0, 0));
            Check.outOfBounds("toneOf of row " + row + ", no kind", r -> r.toneOf(row, 4, 0, 0));
        }
        for (int bad : Rows.NOT_0_TO_11) {
            Check.outOfBounds("toneOf at " + bad, r -> r.toneOf(0, 0, 0, bad));
            Check.outOfBounds("toneOf at " + bad + ", no kind", r -> r.toneOf(0, -1, 0, bad));
            Check.outOfBounds("toneOf at " + bad + ", no index", r -> r.toneOf(1, 0, 12, bad));
            Check.illegalArgument("toneOf of index " + bad, r -> r.toneOf(0, 3, bad, 11));
        }
        for (int bad : Rows.NOT_0_TO_3) {
            Check.illegalArgument("toneOf of kind " + bad, r -> r.toneOf(1, bad, 11, 0));
        }
    }

    /** A form of row 1. */
    private static void form(ToneRows x, int kind, int index, int... tones) {
        for (int place = 0; place < 12; place++) {
            Check.due("kind " + kind + ", index " + index + " at " + place,
                    x.toneOf(1, kind, index, place), tones[place]);
        }
    }

    private static void matrix() {
        Check.promise("10: matrix");
        ToneRows x = Rows.of(Rows.CONCERTO, Rows.PIECE);
        line(x, 0, Rows.PIECE);
        line(x, 1, 3, 10, 5, 4, 2, 11, 6, 8, 0, 1, 7, 9);
        line(x, 2, 8, 3, 10, 9, 7, 4, 11, 1, 5, 6, 0, 2);
        line(x, 11, 4, 11, 6, 5, 3, 0, 7, 9, 1, 2, 8, 10);
        int[] inversion = {10, 3, 8, 9, 11, 2, 7, 5, 1, 0, 6, 4};
        for (int place = 0; place < 12; place++) {
            Check.due("the first column at " + place, x.matrix(1, place, 0), inversion[place]);
            Check.due("the diagonal at " + place, x.matrix(1, place, place), 10);
            Check.due("the diagonal of row 0 at " + place, x.matrix(0, place, place), 11);
            Check.due("the first line of row 0 at " + place, x.matrix(0, 0, place), Rows.CONCERTO[place]);
        }
        Check.onlyComputes("matrix", r -> r.matrix(0, 3, 4));
        for (int row : Rows.NO_ROW) {
            Check.outOfBounds("matrix of row " + row, r -> r.matrix(row, 0, 0));
        }
        for (int bad : Rows.NOT_0_TO_11) {
            Check.outOfBounds("line " + bad, r -> r.matrix(0, bad, 0));
            Check.outOfBounds("column " + bad, r -> r.matrix(1, 0, bad));
        }
    }

    /** A line of the matrix of row 1. */
    private static void line(ToneRows x, int line, int... tones) {
        for (int column = 0; column < 12; column++) {
            Check.due("line " + line + ", column " + column, x.matrix(1, line, column), tones[column]);
        }
    }

    private static void differentForms() {
        Check.promise("11: differentForms");
        ToneRows x = Rows.of(Rows.PIECE, Rows.SYMPHONY);
        Check.due("Schoenberg's row", x.differentForms(0), 48);
        Check.due("Webern's row, its own retrograde", x.differentForms(1), 24);
        Check.due("Berg's row, its own retrograde", Rows.of(Rows.LYRIC).differentForms(0), 24);
        Check.due("a new row, its own retrograde inversion", new ToneRows().differentForms(1), 24);
        x.put(1, 0, 6);
        Check.due("Webern's row with two tones swapped", x.differentForms(1), 48);
        Check.onlyComputes("differentForms", r -> r.differentForms(0));
        for (int row : Rows.NO_ROW) {
            Check.outOfBounds("differentForms of row " + row, r -> r.differentForms(row));
        }
    }

    private static void formOfOther() {
        Check.promise("12: formOfOther");
        ToneRows x = Rows.of(Rows.PIECE, Rows.CONCERTO);
        Check.due("another row", x.formOfOther(0), ToneRows.NONE);
        Check.due("another row, the other way", x.formOfOther(1), ToneRows.NONE);
        for (int code = 0; code < 48; code++) {
            x.take(0, code / 12, code % 12, 1);
            Check.due("the form " + code, x.formOfOther(0), code);
        }
        Check.due("the way back from the last form", x.formOfOther(1), 36 + 4);
        x.take(0, ToneRows.PRIME, 11, 1);
        Check.due("the row itself one up", x.formOfOther(0), 11);
        Check.due("the row itself one down", x.formOfOther(1), 10);
        x.put(1, 10, x.tone(1, 11));
        Check.due("a form with its last tones swapped", x.formOfOther(0), ToneRows.NONE);

        ToneRows lyric = Rows.of(Rows.LYRIC, Rows.LYRIC);
        Check.due("Berg's row, PRIME and RETROGRADE", lyric.formOfOther(0), 5);
        lyric.take(0, ToneRows.RETROGRADE_INVERSION, 1, 1);
        Check.due("Berg's row inverted both ways", lyric.formOfOther(0), 12 + 7);
        Check.onlyComputes("formOfOther", r -> r.formOfOther(0));
        for (int row : Rows.NO_ROW) {
            Check.outOfBounds("formOfOther of row " + row, r -> r.formOfOther(row));
        }
    }
}
