import java.util.Arrays;

/** Promises 22 to 26, each sentence that names an edge: the empty and the full phrase, the ends of forms. */
final class PhraseEdgesTest {
    private static final long ALL_FORMS = 281474976710655L;
    /** Of a new row: the forms PRIME and RETROGRADE_INVERSION. All others descend. */
    private static final long ASCENDING_FORMS = 4095L | 4095L << 36;

    private PhraseEdgesTest() {
    }

    static void run() {
        writeUpToTwelve();
        writeOfToneThePhraseHas();
        writeToAFullPhrase();
        writeOutOfRange();
        eraseOfEachLength();
        emptyPhraseIsInAllForms();
        oneToneIsInAllForms();
        fullPhraseIsInItsOwnForms();
        elevenTonesAreInOneForm();
        formsDoNotWrapAround();
        emptyPhraseHasNoPlace();
        placesOfOneTone();
        placesOfTwoTones();
        placesOfElevenAndTwelve();
        phraseThatDiffersOrEndsTooLate();
        completeByAnEmptyPhrase();
        completeByOneTone();
        completeByTheFirstTones();
        completeByElevenAndTwelve();
        completeKeepsThePhraseAndTheOtherRow();
    }

    private static void writeUpToTwelve() {
        Check.promise("22: how many tones it has then: 1 to 12");
        for (int[] tones : new int[][] {Rows.ASCENDING, Rows.PIECE}) {
            ToneRows x = new ToneRows();
            for (int i = 0; i < 12; i++) {
                Check.due("with " + tones[i], x.write(tones[i]), i + 1);
            }
            x.complete(1);
            Check.due("the phrase", Rows.tones(x, 1), Rows.list(tones));
        }
    }

    private static void writeOfToneThePhraseHas() {
        Check.promise("22: IllegalStateException if the phrase has this tone");
        for (int tone = 0; tone < 12; tone++) {
            int same = tone;
            ToneRows x = Rows.written(new ToneRows(), tone);
            Check.refusal("a second " + tone, IllegalStateException.class, r -> r.write(same), x,
                    Rows.written(new ToneRows(), tone));
            int next = (tone + 1) % 12;
            ToneRows two = Rows.written(new ToneRows(), tone, next);
            Check.refusal(next + " behind " + tone + " and it", IllegalStateException.class, r -> r.write(next), two,
                    Rows.written(new ToneRows(), tone, next));
            ToneRows erased = Rows.written(new ToneRows(), tone);
            erased.erase();
            Check.due(tone + " once erased", erased.write(tone), 1);
            ToneRows refused = Rows.written(new ToneRows(), tone);
            Check.thrownBy(r -> r.write(same), refused);
            Check.due(next + " after a second " + tone + " was refused", refused.write(next), 2);
        }
    }

    private static void writeToAFullPhrase() {
        Check.promise("22: a full phrase has every tone");
        for (int tone = 0; tone < 12; tone++) {
            int any = tone;
            Check.refusal("write of " + tone, IllegalStateException.class, r -> r.write(any),
                    Rows.withFullPhrase(), Rows.withFullPhrase());
        }
    }

    private static void writeOutOfRange() {
        Check.promise("22: IllegalArgumentException if tone is out of range, with every phrase");
        for (int length = 0; length <= 12; length++) {
            int[] phrase = Arrays.copyOf(Rows.LYRIC, length);
            for (int bad : Rows.NOT_0_TO_11) {
                Check.refusal(bad + " behind " + length, IllegalArgumentException.class, r -> r.write(bad),
                        Rows.written(new ToneRows(), phrase), Rows.written(new ToneRows(), phrase));
            }
        }
    }

    private static void eraseOfEachLength() {
        Check.promise("23: how many tones it had: 0 to 12");
        for (int length = 0; length <= 12; length++) {
            ToneRows x = Rows.written(Rows.of(Rows.PIECE, Rows.CONCERTO), Arrays.copyOf(Rows.LYRIC, length));
            Check.due("the first time", x.erase(), length);
            Check.due("the second time", x.erase(), 0);
            Check.due("all forms then", x.formsWithPhrase(1), ALL_FORMS);
            Check.due("no place then", x.placeOfPhrase(0, 10), ToneRows.NONE);
            Check.due("row 0", Rows.tones(x, 0), Rows.list(Rows.PIECE));
            Check.due("row 1", Rows.tones(x, 1), Rows.list(Rows.CONCERTO));
            for (int i = 11; i >= 0; i--) {
                Check.due("a new phrase with " + Rows.LYRIC[i], x.write(Rows.LYRIC[i]), 12 - i);
            }
        }
    }

    private static void emptyPhraseIsInAllForms() {
        Check.promise("24: all 48 if the phrase is empty");
        ToneRows x = Rows.of(Rows.PIECE, Rows.LYRIC);
        Check.due("row 0", x.formsWithPhrase(0), ALL_FORMS);
        Check.due("row 1", x.formsWithPhrase(1), ALL_FORMS);
    }

    private static void oneToneIsInAllForms() {
        Check.promise("24: a phrase of one tone");
        for (int tone = 0; tone < 12; tone++) {
            ToneRows x = Rows.written(Rows.of(Rows.PIECE, Rows.LYRIC), tone);
            Check.due(tone + " in row 0", x.formsWithPhrase(0), ALL_FORMS);
            Check.due(tone + " in row 1", x.formsWithPhrase(1), ALL_FORMS);
        }
    }

    private static void fullPhraseIsInItsOwnForms() {
        Check.promise("24: the full phrase; bit c for the form with the code c: 0 to 47");
        for (int code = 0; code < 48; code++) {
            ToneRows x = Rows.written(Rows.of(Rows.PIECE), formOf(Rows.PIECE, code));
            Check.due("the form " + code + " of Schoenberg's row", x.formsWithPhrase(0), Rows.bits(code));
            Check.due("the same in a new row", x.formsWithPhrase(1), 0);
        }
        for (int index = 0; index < 12; index++) {
            int before = (index + 11) % 12;
            ToneRows x = Rows.written(new ToneRows(), formOf(Rows.ASCENDING, index));
            Check.due("PRIME " + index + " of a new row", x.formsWithPhrase(1), Rows.bits(index, 36 + before));
            x = Rows.written(new ToneRows(), formOf(Rows.ASCENDING, 24 + index));
            Check.due("RETROGRADE " + index + " of a new row", x.formsWithPhrase(0),
                    Rows.bits(24 + index, 12 + before));
        }
    }

    private static void elevenTonesAreInOneForm() {
        Check.promise("24: eleven tones");
        for (int code = 0; code < 48; code++) {
            int[] form = formOf(Rows.PIECE, code);
            ToneRows x = Rows.written(Rows.of(Rows.PIECE), Arrays.copyOf(form, 11));
            Check.due("the first eleven of the form " + code, x.formsWithPhrase(0), Rows.bits(code));
            x = Rows.written(Rows.of(Rows.PIECE), Arrays.copyOfRange(form, 1, 12));
            Check.due("the last eleven of the form " + code, x.formsWithPhrase(0), Rows.bits(code));
        }
    }

    private static void formsDoNotWrapAround() {
        Check.promise("24: its tones at neighbouring places in this order");
        for (int tone = 0; tone < 12; tone++) {
            int next = (tone + 1) % 12;
            // An ascending form that begins with the next tone has this one at place 11.
            long ascending = ASCENDING_FORMS & ~Rows.bits(next, 36 + tone);
            ToneRows x = Rows.written(new ToneRows(), tone, next);
            Check.due(tone + " " + next, x.formsWithPhrase(0), ascending);
            long descending = (ALL_FORMS ^ ASCENDING_FORMS) & ~Rows.bits(12 + tone, 24 + next);
            x = Rows.written(new ToneRows(), next, tone);
            Check.due(next + " " + tone, x.formsWithPhrase(1), descending);
            x = Rows.written(new ToneRows(), tone, (tone + 2) % 12);
            Check.due(tone + " and two above", x.formsWithPhrase(0), 0);
        }
    }

    private static void emptyPhraseHasNoPlace() {
        Check.promise("25: NONE if the phrase is empty");
        ToneRows x = Rows.of(Rows.PIECE, Rows.LYRIC);
        ToneRows erased = Rows.written(Rows.of(Rows.PIECE, Rows.LYRIC), 10, 5);
        erased.erase();
        for (int code = 0; code < 48; code++) {
            Check.due("the form " + code + " of row 0", x.placeOfPhrase(0, code), ToneRows.NONE);
            Check.due("the form " + code + " of row 1", x.placeOfPhrase(1, code), ToneRows.NONE);
            Check.due("the form " + code + ", once erased", erased.placeOfPhrase(0, code), ToneRows.NONE);
        }
    }

    private static void placesOfOneTone() {
        Check.promise("25: the place, 0 to 11; code 0 to 47");
        for (int code = 0; code < 48; code++) {
            int[] form = formOf(Rows.PIECE, code);
            for (int place = 0; place < 12; place++) {
                ToneRows x = Rows.written(Rows.of(Rows.LYRIC, Rows.PIECE), form[place]);
                Check.due("the tone at " + place + " of the form " + code, x.placeOfPhrase(1, code), place);
            }
        }
    }

    private static void placesOfTwoTones() {
        Check.promise("25: NONE if the form does not have it");
        for (int code = 0; code < 48; code++) {
            int[] form = formOf(Rows.CONCERTO, code);
            for (int place = 0; place < 12; place++) {
                int next = (place + 1) % 12;
                ToneRows x = Rows.written(Rows.of(Rows.CONCERTO), form[place], form[next]);
                Check.due("the tones at " + place + " and " + next + " of the form " + code,
                        x.placeOfPhrase(0, code), place == 11 ? ToneRows.NONE : place);
                x = Rows.written(Rows.of(Rows.CONCERTO), form[next], form[place]);
                Check.due("the tones at " + next + " and " + place + " of the form " + code,
                        x.placeOfPhrase(0, code), ToneRows.NONE);
            }
        }
    }

    private static void placesOfElevenAndTwelve() {
        Check.promise("25: eleven tones, and the full phrase");
        for (int code = 0; code < 48; code++) {
            int[] form = formOf(Rows.PIECE, code);
            ToneRows x = Rows.written(Rows.of(Rows.PIECE), Arrays.copyOf(form, 11));
            Check.due("the first eleven of the form " + code, x.placeOfPhrase(0, code), 0);
            x = Rows.written(Rows.of(Rows.PIECE), Arrays.copyOfRange(form, 1, 12));
            Check.due("the last eleven of the form " + code, x.placeOfPhrase(0, code), 1);
            x = Rows.written(Rows.of(Rows.PIECE), form);
            for (int other = 0; other < 48; other++) {
                Check.due("the form " + code + " in the form " + other, x.placeOfPhrase(0, other),
                        other == code ? 0 : ToneRows.NONE);
            }
        }
    }

    private static void phraseThatDiffersOrEndsTooLate() {
        Check.promise("25: each tone of the phrase, up to its last");
        ToneRows x = Rows.written(Rows.of(Rows.PIECE), 7, 8, 2);
        Check.due("7 8 2", x.placeOfPhrase(0, 10), 8);
        x.write(4);
        Check.due("7 8 2 4, up to place 11", x.placeOfPhrase(0, 10), 8);
        x.write(10);
        Check.due("7 8 2 4 and what is at place 0", x.placeOfPhrase(0, 10), ToneRows.NONE);
        x.erase();
        Rows.written(x, 10, 5, 0, 9);
        Check.due("10 5 0 and not 11", x.placeOfPhrase(0, 10), ToneRows.NONE);
        x.erase();
        Rows.written(x, 10, 5, 0, 11, 9, 6, 1, 3, 7, 8, 4, 2);
        Check.due("all twelve with the last two swapped", x.placeOfPhrase(0, 10), ToneRows.NONE);
    }

    private static void completeByAnEmptyPhrase() {
        Check.promise("26: an empty phrase leaves the row");
        ToneRows x = Rows.of(Rows.PIECE, Rows.CONCERTO);
        Check.due("the begin of row 0", x.complete(0), 10);
        Check.due("row 0", Rows.tones(x, 0), Rows.list(Rows.PIECE));
        Check.due("the begin of row 1", x.complete(1), 11);
        Check.due("row 1", Rows.tones(x, 1), Rows.list(Rows.CONCERTO));
    }

    private static void completeByOneTone() {
        Check.promise("26: all others follow in the order in which they are in the row now");
        for (int place = 0; place < 12; place++) {
            int[] due = Rows.PIECE.clone();
            System.arraycopy(Rows.PIECE, 0, due, 1, place);
            due[0] = Rows.PIECE[place];
            for (int row = 0; row < 2; row++) {
                ToneRows x = Rows.written(Rows.of(Rows.PIECE, Rows.PIECE), Rows.PIECE[place]);
                String what = "row " + row + " from the tone at " + place;
                Check.due("the begin of " + what, x.complete(row), Rows.PIECE[place]);
                Check.due(what, Rows.tones(x, row), Rows.list(due));
            }
        }
    }

    private static void completeByTheFirstTones() {
        Check.promise("26: the tones of the phrase at the beginning already");
        for (int length = 0; length <= 12; length++) {
            ToneRows x = Rows.written(Rows.of(Rows.PIECE), Arrays.copyOf(Rows.PIECE, length));
            Check.due("the begin with " + length, x.complete(0), 10);
            Check.due("the row with " + length, Rows.tones(x, 0), Rows.list(Rows.PIECE));
        }
        ToneRows x = Rows.written(Rows.of(Rows.PIECE), 5, 10);
        Check.due("the begin with the first two swapped", x.complete(0), 5);
        Check.due("the row then", Rows.tones(x, 0), Rows.list(5, 10, 0, 11, 9, 6, 1, 3, 7, 8, 2, 4));
        x = Rows.written(Rows.of(Rows.PIECE), 4, 2);
        Check.due("the begin with the last two swapped", x.complete(0), 4);
        Check.due("the row then", Rows.tones(x, 0), Rows.list(4, 2, 10, 5, 0, 11, 9, 6, 1, 3, 7, 8));
    }

    private static void completeByElevenAndTwelve() {
        Check.promise("26: eleven tones, and the full phrase, in the order of the phrase");
        ToneRows x = Rows.written(Rows.of(Rows.PIECE, Rows.LYRIC), Arrays.copyOfRange(Rows.CONCERTO, 1, 12));
        Check.due("the begin by eleven", x.complete(0), 10);
        Check.due("the row by eleven", Rows.tones(x, 0), Rows.list(10, 2, 3, 7, 6, 8, 4, 5, 0, 1, 9, 11));
        x.write(11);
        Check.due("the begin by all twelve", x.complete(1), 10);
        Check.due("the row by all twelve", Rows.tones(x, 1), Rows.list(10, 2, 3, 7, 6, 8, 4, 5, 0, 1, 9, 11));
        Check.due("the phrase then", x.erase(), 12);
    }

    private static void completeKeepsThePhraseAndTheOtherRow() {
        Check.promise("26: a row, and nothing else");
        ToneRows x = Rows.written(Rows.of(Rows.PIECE, Rows.LYRIC), 3, 0);
        x.complete(0);
        Check.due("row 1, not named", Rows.tones(x, 1), Rows.list(Rows.LYRIC));
        Check.due("where row 0 has the phrase", x.placeOfPhrase(0, 3), 0);
        x.put(0, 1, 8);
        Check.due("the length with one more tone", x.write(9), 3);
        Check.due("row 1 by the phrase", x.complete(1), 3);
        Check.due("row 1 then", Rows.tones(x, 1), Rows.list(3, 0, 9, 5, 4, 7, 2, 8, 1, 6, 10, 11));
        Check.due("row 0, with 8 where 0 was", Rows.tones(x, 0), Rows.list(3, 8, 10, 5, 11, 9, 6, 1, 7, 0, 2, 4));
        Check.due("the phrase, kept", x.erase(), 3);
    }

    /** The tones of a form: the row itself less its first tone or the other way round, then backwards. */
    private static int[] formOf(int[] row, int code) {
        boolean inverts = code / 12 % 2 == 1;
        boolean backwards = code / 12 >= 2;
        int[] form = new int[12];
        for (int place = 0; place < 12; place++) {
            int above = inverts ? row[0] - row[place] : row[place] - row[0];
            form[backwards ? 11 - place : place] = (above + code % 12 + 12) % 12;
        }
        return form;
    }
}
