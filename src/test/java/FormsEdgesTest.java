import java.util.List;

/** Promises 9 to 12, each sentence that names an edge: the first and the last form, place, line and column. */
final class FormsEdgesTest {
    private FormsEdgesTest() {
    }

    static void run() {
        firstAndLastIndexOfEachKind();
        retrogradesHaveTheIndexAtPlace11();
        tonesWrapAround();
        cornersOfTheMatrix();
        firstLineAndFirstColumn();
        eachLineIsAPrimeForm();
        twentyFourOrFortyEight();
        everyFormIsFound();
        leastOfTwoForms();
        noneIsFound();
        rowsMadeInOtherWays();
    }

    private static void firstAndLastIndexOfEachKind() {
        Check.promise("9: kind, index and place, each the first and the last");
        ToneRows x = Rows.of(Rows.PIECE, Rows.CONCERTO);
        ends(x, 0, ToneRows.PRIME, 0, 0, 6);
        ends(x, 0, ToneRows.PRIME, 11, 11, 5);
        ends(x, 0, ToneRows.INVERSION, 0, 0, 6);
        ends(x, 0, ToneRows.INVERSION, 11, 11, 5);
        ends(x, 0, ToneRows.RETROGRADE, 0, 6, 0);
        ends(x, 0, ToneRows.RETROGRADE, 11, 5, 11);
        ends(x, 0, ToneRows.RETROGRADE_INVERSION, 0, 6, 0);
        ends(x, 0, ToneRows.RETROGRADE_INVERSION, 11, 5, 11);
        ends(x, 1, ToneRows.PRIME, 0, 0, 10);
        ends(x, 1, ToneRows.PRIME, 11, 11, 9);
        ends(x, 1, ToneRows.INVERSION, 0, 0, 2);
        ends(x, 1, ToneRows.INVERSION, 11, 11, 1);
        ends(x, 1, ToneRows.RETROGRADE, 0, 10, 0);
        ends(x, 1, ToneRows.RETROGRADE, 11, 9, 11);
        ends(x, 1, ToneRows.RETROGRADE_INVERSION, 0, 2, 0);
        ends(x, 1, ToneRows.RETROGRADE_INVERSION, 11, 1, 11);
    }

    private static void ends(ToneRows x, int row, int kind, int index, int first, int last) {
        String form = "kind " + kind + ", index " + index + " of row " + row;
        Check.due(form + " at 0", x.toneOf(row, kind, index, 0), first);
        Check.due(form + " at 11", x.toneOf(row, kind, index, 11), last);
    }

    private static void retrogradesHaveTheIndexAtPlace11() {
        Check.promise("9: PRIME n and INVERSION n backwards: the tone at their place 11 is n");
        ToneRows x = Rows.of(Rows.LYRIC, Rows.PIECE);
        for (int index = 0; index < 12; index++) {
            Check.due("RETROGRADE " + index, x.toneOf(1, ToneRows.RETROGRADE, index, 11), index);
            Check.due("RETROGRADE_INVERSION " + index, x.toneOf(1, ToneRows.RETROGRADE_INVERSION, index, 11), index);
        }
        for (int place = 0; place < 12; place++) {
            Check.due("RETROGRADE 4 at " + place, x.toneOf(1, ToneRows.RETROGRADE, 4, place),
                    x.toneOf(1, ToneRows.PRIME, 4, 11 - place));
            Check.due("RETROGRADE_INVERSION 4 at " + place, x.toneOf(1, ToneRows.RETROGRADE_INVERSION, 4, place),
                    x.toneOf(1, ToneRows.INVERSION, 4, 11 - place));
        }
    }

    private static void tonesWrapAround() {
        Check.promise("9: sums and differences modulo 12");
        ToneRows x = new ToneRows();
        for (int index = 0; index < 12; index++) {
            for (int place = 0; place < 12; place++) {
                int up = index + place < 12 ? index + place : index + place - 12;
                int down = index >= place ? index - place : index - place + 12;
                Check.due("PRIME " + index + " at " + place, x.toneOf(0, 0, index, place), up);
                Check.due("INVERSION " + index + " at " + place, x.toneOf(1, 1, index, place), down);
            }
        }
    }

    private static void cornersOfTheMatrix() {
        Check.promise("10: line and column 0 to 11");
        ToneRows x = Rows.of(Rows.PIECE, Rows.CONCERTO);
        Check.due("row 0, line 0, column 0", x.matrix(0, 0, 0), 10);
        Check.due("row 0, line 0, column 11", x.matrix(0, 0, 11), 4);
        Check.due("row 0, line 11, column 0", x.matrix(0, 11, 0), 4);
        Check.due("row 0, line 11, column 11", x.matrix(0, 11, 11), 10);
        Check.due("row 1, line 0, column 0", x.matrix(1, 0, 0), 11);
        Check.due("row 1, line 0, column 11", x.matrix(1, 0, 11), 9);
        Check.due("row 1, line 11, column 0", x.matrix(1, 11, 0), 1);
        Check.due("row 1, line 11, column 11", x.matrix(1, 11, 11), 11);
    }

    private static void firstLineAndFirstColumn() {
        Check.promise("10: its first line is the row, its first column is the inversion");
        for (int[] row : List.of(Rows.ASCENDING, Rows.LYRIC, Rows.CONCERTO, Rows.PIECE, Rows.SYMPHONY)) {
            ToneRows x = Rows.of(row, row);
            for (int place = 0; place < 12; place++) {
                Check.due("line 0 at " + place, x.matrix(0, 0, place), row[place]);
                Check.due("column 0 at " + place, x.matrix(1, place, 0), (2 * row[0] - row[place] + 12) % 12);
            }
        }
    }

    private static void eachLineIsAPrimeForm() {
        Check.promise("10: each line is the PRIME form that begins with the tone in the first column");
        for (int row = 0; row < 2; row++) {
            for (int line = 0; line < 12; line++) {
                ToneRows x = Rows.of(Rows.PIECE, Rows.LYRIC);
                int begin = x.matrix(row, line, 0);
                for (int column = 0; column < 12; column++) {
                    Check.due("row " + row + ", line " + line + ", column " + column,
                            x.matrix(row, line, column), x.toneOf(row, ToneRows.PRIME, begin, column));
                }
            }
        }
    }

    private static void twentyFourOrFortyEight() {
        Check.promise("11: 24 or 48");
        for (int sum = 1; sum < 12; sum += 2) {
            ToneRows x = new ToneRows();
            Rows.fill(x, 0, mirrored(sum));
            Rows.fill(x, 1, mirrored(sum));
            Check.due("a row whose tones at mirrored places add up to " + sum, x.differentForms(0), 24);
            x.put(1, 0, x.tone(1, 5));
            Check.due("the same with one tone at another place", x.differentForms(1), 48);
        }
        ToneRows x = Rows.of(new int[] {11, 8, 3, 1, 6, 10, 4, 0, 7, 9, 2, 5}, Rows.SYMPHONY);
        Check.due("a row whose tones at mirrored places are six apart", x.differentForms(0), 24);
        x.put(0, 11, 4);
        Check.due("the same with its last tone at another place", x.differentForms(0), 48);
        Check.due("the row beside it", x.differentForms(1), 24);
    }

    /** A row in which the tones at the places p and 11 - p add up to an odd number, modulo 12. */
    private static int[] mirrored(int sum) {
        int[] tones = new int[12];
        int place = 0;
        for (int tone = 0; tone < 12; tone++) {
            int partner = (sum - tone + 12) % 12;
            if (tone < partner) {
                tones[place] = tone;
                tones[11 - place] = partner;
                place++;
            }
        }
        return tones;
    }

    private static void everyFormIsFound() {
        Check.promise("12: the form of a row that is the other row: codes 0 to 47");
        for (int code = 0; code < 48; code++) {
            ToneRows x = Rows.of(Rows.PIECE, Rows.LYRIC);
            x.take(0, code / 12, code % 12, 1);
            Check.due("row 1, made the form " + code, x.formOfOther(0), code);
            x = Rows.of(Rows.LYRIC, Rows.CONCERTO);
            x.take(1, code / 12, code % 12, 0);
            Check.due("row 0, made the form " + code, x.formOfOther(1), code);
        }
    }

    private static void leastOfTwoForms() {
        Check.promise("12: the least code of such a form");
        Check.due("two new rows: PRIME 0 and RETROGRADE_INVERSION 11", new ToneRows().formOfOther(0), 0);
        Check.due("two new rows, the other way", new ToneRows().formOfOther(1), 0);
        for (int index = 0; index < 12; index++) {
            ToneRows x = new ToneRows();
            x.take(0, ToneRows.RETROGRADE, index, 1);
            Check.due("RETROGRADE " + index + " of a new row", x.formOfOther(0), 12 + (index + 11) % 12);
            x.take(0, ToneRows.RETROGRADE_INVERSION, index, 1);
            Check.due("RETROGRADE_INVERSION " + index + " of a new row", x.formOfOther(0), (index + 1) % 12);
        }
    }

    private static void noneIsFound() {
        Check.promise("12: NONE if the other row is no form of it");
        for (int code = 0; code < 48; code++) {
            ToneRows x = Rows.of(Rows.PIECE);
            x.take(0, code / 12, code % 12, 1);
            x.put(1, 0, x.tone(1, 1));
            Check.due("the form " + code + " with its first tones swapped", x.formOfOther(0), ToneRows.NONE);
            Check.due("the same, the other way", x.formOfOther(1), ToneRows.NONE);
        }
    }

    private static void rowsMadeInOtherWays() {
        Check.promise("12: the other row, whichever call made it so");
        for (int row = 0; row < 2; row++) {
            ToneRows x = new ToneRows();
            x.multiply(row, 11);
            Check.due("descending by multiply", x.formOfOther(1 - row), 12);
            Check.due("ascending, seen from it", x.formOfOther(row), 12);
            x.multiply(row, 5);
            Check.due("fourths by multiply", x.formOfOther(1 - row), ToneRows.NONE);
            x.multiply(row, 5);
            x.rotate(row, 4);
            Check.due("descending from 8 by rotate", x.formOfOther(1 - row), 12 + 8);
            Rows.written(x, 2, 1, 0, 11);
            x.complete(row);
            Check.due("2 1 0 11 and then from 8 to 3, 10 and 9 by complete", x.formOfOther(1 - row), ToneRows.NONE);
            Rows.written(x, 10, 9);
            x.complete(row);
            Check.due("descending from 2 by complete", x.formOfOther(1 - row), 12 + 2);
            x.erase();
            x.complete(row);
            Check.due("the same by complete with an erased phrase", x.formOfOther(1 - row), 12 + 2);
            Rows.fill(x, row, Rows.ASCENDING);
            Check.due("ascending by put", x.formOfOther(1 - row), 0);
            x.rotate(row, 0);
            x.multiply(row, 1);
            Check.due("ascending by rotate and multiply", x.formOfOther(1 - row), 0);
        }
    }
}
