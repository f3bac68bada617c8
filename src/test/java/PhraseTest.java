/** Promises 22 to 26. */
final class PhraseTest {
    private static final long ALL_FORMS = 281474976710655L;

    private PhraseTest() {
    }

    static void run() {
        write();
        erase();
        formsWithPhrase();
        placeOfPhrase();
        complete();
    }

    private static void write() {
        Check.promise("22: write");
        ToneRows x = new ToneRows();
        for (int i = 0; i < 12; i++) {
            Check.due("the length with " + Rows.PIECE[i], x.write(Rows.PIECE[i]), i + 1);
        }
        x.complete(0);
        Check.due("the phrase", Rows.tones(x, 0), Rows.list(Rows.PIECE));
        Check.due("what a full phrase leaves of row 1", x.tone(1, 0), 0);
        x.erase();
        Check.due("the length with 5 once erased", x.write(5), 1);

        for (int tone : new int[] {7, 2, 9}) {
            Check.illegalState("write of the " + tone + " that is there", r -> r.write(tone));
        }
        for (int tone : Rows.PIECE) {
            Class<?> thrown = Check.thrownBy(r -> r.write(tone), Rows.withFullPhrase());
            Check.due("write of " + tone + " to a full phrase", thrown, IllegalStateException.class);
        }
        for (int bad : Rows.NOT_0_TO_11) {
            Check.illegalArgument("write of " + bad, r -> r.write(bad));
        }
    }

    private static void erase() {
        Check.promise("23: erase");
        ToneRows x = new ToneRows();
        Check.due("an empty phrase", x.erase(), 0);
        Rows.written(x, 0);
        Check.due("a phrase of one tone", x.erase(), 1);
        Check.due("the phrase once erased", x.erase(), 0);
        Check.due("the forms then", x.formsWithPhrase(0), ALL_FORMS);
        Rows.written(x, 3, 2);
        x.complete(0);
        Check.due("the begin of a row with the new phrase", Rows.tones(x, 0).subList(0, 3), Rows.list(3, 2, 0));
        Check.due("a phrase of two tones", x.erase(), 2);
        Rows.written(x, Rows.LYRIC);
        Check.due("a full phrase", x.erase(), 12);
        Check.due("the rows, left alone", Rows.tones(x, 0), Rows.list(3, 2, 0, 1, 4, 5, 6, 7, 8, 9, 10, 11));
    }

    private static void formsWithPhrase() {
        Check.promise("24: formsWithPhrase");
        ToneRows x = Rows.of(Rows.PIECE);
        Check.due("an empty phrase", x.formsWithPhrase(0), ALL_FORMS);
        x.write(6);
        Check.due("one tone", x.formsWithPhrase(1), ALL_FORMS);
        x.write(7);
        Check.due("two tones, one up", x.formsWithPhrase(1),
                Rows.bits(0, 1, 2, 3, 4, 5, 6, 8, 9, 10, 11, 36, 37, 38, 39, 40, 41, 43, 44, 45, 46, 47));
        x.write(8);
        Check.due("three tones, each one up", x.formsWithPhrase(1),
                Rows.bits(0, 1, 2, 3, 4, 5, 6, 9, 10, 11, 36, 37, 38, 39, 40, 41, 44, 45, 46, 47));
        x.write(3);
        Check.due("a phrase in no form", x.formsWithPhrase(1), 0);
        x.erase();
        Rows.written(x, 9, 6, 1, 3);
        Check.due("four tones of Schoenberg's row", x.formsWithPhrase(0), Rows.bits(10));
        x.erase();
        Rows.written(x, 4, 2, 8);
        Check.due("the end of it backwards", x.formsWithPhrase(0), Rows.bits(34));
        x.erase();
        Rows.written(x, Rows.LYRIC);
        Rows.fill(x, 1, Rows.LYRIC);
        Check.due("the full phrase of Berg's row", x.formsWithPhrase(1), Rows.bits(5, 35));
        Check.due("the full phrase of another row", x.formsWithPhrase(0), 0);
        Check.onlyComputes("formsWithPhrase", r -> r.formsWithPhrase(0));
        for (int row : Rows.NO_ROW) {
            Check.outOfBounds("formsWithPhrase of row " + row, r -> r.formsWithPhrase(row));
        }
    }

    private static void placeOfPhrase() {
        Check.promise("25: placeOfPhrase");
        ToneRows x = Rows.of(Rows.PIECE);
        Check.due("an empty phrase", x.placeOfPhrase(0, 10), ToneRows.NONE);
        x.write(10);
        Check.due("the first tone", x.placeOfPhrase(0, 10), 0);
        Check.due("the same tone backwards", x.placeOfPhrase(0, 34), 11);
        Check.due("the same tone of row 1", x.placeOfPhrase(1, 0), 10);
        x.write(11);
        Check.due("10 and 11 at the end", x.placeOfPhrase(1, 0), 10);
        Check.due("10 and 11 in the middle", x.placeOfPhrase(1, 4), 6);
        Check.due("10 and 11 at the begin", x.placeOfPhrase(1, 10), 0);
        Check.due("11 at the begin, 10 at the end", x.placeOfPhrase(1, 11), ToneRows.NONE);
        Check.due("10 and 11 in the last form", x.placeOfPhrase(1, 47), 10);
        x.write(0);
        Check.due("a phrase beyond the end", x.placeOfPhrase(1, 0), ToneRows.NONE);
        Check.due("10, 11 and 0", x.placeOfPhrase(1, 1), 9);
        x.erase();
        Rows.written(x, Rows.PIECE);
        Check.due("a full phrase", x.placeOfPhrase(0, 10), 0);
        Check.due("a full phrase in another form", x.placeOfPhrase(0, 11), ToneRows.NONE);
        Check.onlyComputes("placeOfPhrase", r -> r.placeOfPhrase(0, 7));

        for (int row : Rows.NO_ROW) {
            Check.outOfBounds("placeOfPhrase in row " + row, r -> r.placeOfPhrase(row, 0));
            Check.outOfBounds("placeOfPhrase in row " + row + ", no code", r -> r.placeOfPhrase(row, 48));
        }
        for (int bad : Rows.NOT_0_TO_47) {
            Check.illegalArgument("placeOfPhrase in the form " + bad, r -> r.placeOfPhrase(0, bad));
            Check.illegalArgument("placeOfPhrase in the form " + bad + " of row 1", r -> r.placeOfPhrase(1, bad));
            Check.illegalArgument("an empty phrase in the form " + bad, r -> new ToneRows().placeOfPhrase(0, bad));
        }
    }

    private static void complete() {
        Check.promise("26: complete");
        ToneRows x = Rows.of(Rows.PIECE);
        Check.due("the begin by an empty phrase", x.complete(0), 10);
        Check.due("the row by an empty phrase", Rows.tones(x, 0), Rows.list(Rows.PIECE));
        Rows.written(x, 7, 2, 9);
        Check.due("the begin by three tones", x.complete(0), 7);
        Check.due("the row by three tones", Rows.tones(x, 0), Rows.list(7, 2, 9, 10, 5, 0, 11, 6, 1, 3, 8, 4));
        Check.due("row 1, not named", x.tone(1, 0), 0);
        Check.due("the begin of row 1", x.complete(1), 7);
        Check.due("row 1 by three tones", Rows.tones(x, 1), Rows.list(7, 2, 9, 0, 1, 3, 4, 5, 6, 8, 10, 11));
        Check.due("the begin once more", x.complete(1), 7);
        Check.due("row 1 once more", Rows.tones(x, 1), Rows.list(7, 2, 9, 0, 1, 3, 4, 5, 6, 8, 10, 11));
        Check.due("the phrase, kept", x.erase(), 3);
        Rows.written(x, Rows.LYRIC);
        Check.due("the begin by a full phrase", x.complete(0), 5);
        Check.due("the row by a full phrase", Rows.tones(x, 0), Rows.list(Rows.LYRIC));
        for (int row : Rows.NO_ROW) {
            Check.outOfBounds("complete of row " + row, r -> r.complete(row));
        }
    }
}
