/** Promises 18 to 21, each sentence that names an edge: all kept and almost none, the ends of rows, every cut. */
final class KeptEdgesTest {
    /** Its first tone, its first five and its first six are those from 0 up. */
    private static final int[] MIXED = {0, 2, 4, 1, 3, 5, 8, 10, 6, 9, 11, 7};

    private KeptEdgesTest() {
    }

    static void run() {
        oneToneAndTwelveAreAlwaysKept();
        theRowItselfKeepsAll();
        setsDoNotWrapAround();
        longestKeptOneToTwelve();
        longestKeptDoesNotWrapAround();
        longestKeptAtEachPlace();
        mostKeptOfTheFirstAndTheLastLength();
        mostKeptLeavesOutTheRowItself();
        cutsBeforeAllAndAfterAll();
        eachCutAlone();
        everyCut();
        cutsOfTheFirstAndTheLastForm();
    }

    private static void oneToneAndTwelveAreAlwaysKept() {
        Check.promise("18: length 1 to 12");
        ToneRows x = Rows.of(Rows.PIECE, Rows.LYRIC);
        for (int code = 0; code < 48; code++) {
            for (int row = 0; row < 2; row++) {
                String form = "the form " + code + " of row " + row;
                Check.due("single tones that keeps " + form, x.keptSets(row, code / 12, code % 12, 1), 12);
                Check.due("sets of twelve that keeps " + form, x.keptSets(row, code / 12, code % 12, 12), 1);
            }
        }
    }

    private static void theRowItselfKeepsAll() {
        Check.promise("18: how many, of 13 less length");
        for (int length = 1; length <= 12; length++) {
            ToneRows x = Rows.of(Rows.PIECE, Rows.CONCERTO);
            Check.due("row 0 itself, length " + length, x.keptSets(0, ToneRows.PRIME, 10, length), 13 - length);
            Check.due("row 0 backwards, length " + length, x.keptSets(0, ToneRows.RETROGRADE, 10, length), 13 - length);
            Check.due("row 1 itself, length " + length, x.keptSets(1, ToneRows.PRIME, 11, length), 13 - length);
            Check.due("row 1 backwards, length " + length, x.keptSets(1, ToneRows.RETROGRADE, 11, length), 13 - length);
        }
    }

    private static void setsDoNotWrapAround() {
        Check.promise("18: the form has a segment of this length with the same set");
        for (int index = 0; index < 12; index++) {
            ToneRows x = new ToneRows();
            for (int length = 2; length <= 11; length++) {
                String what = index + ", length " + length;
                int due = 0;
                for (int place = 0; place + length <= 12; place++) {
                    // The segment of the form with the same set begins at this place, or nowhere.
                    int placeInForm = (place - index + 12) % 12;
                    due += placeInForm + length <= 12 ? 1 : 0;
                }
                int before = (index + 11) % 12;
                Check.due("PRIME " + what, x.keptSets(0, ToneRows.PRIME, index, length), due);
                Check.due("INVERSION before " + what, x.keptSets(1, ToneRows.INVERSION, before, length), due);
                Check.due("RETROGRADE " + what, x.keptSets(0, ToneRows.RETROGRADE, index, length), due);
                Check.due("RETROGRADE_INVERSION before " + what,
                        x.keptSets(1, ToneRows.RETROGRADE_INVERSION, before, length), due);
            }
        }
    }

    private static void longestKeptOneToTwelve() {
        Check.promise("19: 1 to 12");
        for (int first = 0; first < 12; first++) {
            ToneRows x = Rows.of(Rows.PIECE);
            x.take(0, ToneRows.PRIME, first, 1);
            Check.due("the row itself, from " + first, x.longestKept(1, ToneRows.PRIME, first), 12);
            Check.due("the row backwards, from " + first, x.longestKept(1, ToneRows.RETROGRADE, first), 1);
        }
        ToneRows lyric = Rows.of(Rows.SYMPHONY, Rows.LYRIC);
        Check.due("Berg's row backwards, which is itself", lyric.longestKept(1, ToneRows.RETROGRADE, 11), 12);
    }

    private static void longestKeptDoesNotWrapAround() {
        Check.promise("19: the form has these tones at neighbouring places in the same order");
        ToneRows x = new ToneRows();
        for (int index = 0; index < 12; index++) {
            int due = Math.max(index, 12 - index);
            int before = (index + 11) % 12;
            Check.due("PRIME " + index, x.longestKept(0, ToneRows.PRIME, index), due);
            Check.due("INVERSION " + index, x.longestKept(1, ToneRows.INVERSION, index), 1);
            Check.due("RETROGRADE " + index, x.longestKept(0, ToneRows.RETROGRADE, index), 1);
            Check.due("RETROGRADE_INVERSION " + before, x.longestKept(1, ToneRows.RETROGRADE_INVERSION, before), due);
        }
    }

    private static void longestKeptAtEachPlace() {
        Check.promise("19: the longest segment, wherever it is");
        ToneRows x = Rows.of(new int[] {0, 1, 2, 3, 7, 5, 10, 8, 11, 4, 6, 9},
                new int[] {9, 6, 4, 11, 8, 10, 5, 7, 0, 1, 2, 3});
        Check.due("0 1 2 3 at the begin, one up", x.longestKept(0, ToneRows.PRIME, 1), 3);
        Check.due("0 1 2 3 at the end, one down", x.longestKept(1, ToneRows.PRIME, 8), 3);
        Check.due("0 1 2 3 at the begin, inverted backwards", x.longestKept(0, ToneRows.RETROGRADE_INVERSION, 3), 4);
        Check.due("0 1 2 3 at the end, inverted backwards", x.longestKept(1, ToneRows.RETROGRADE_INVERSION, 6), 4);
    }

    private static void mostKeptOfTheFirstAndTheLastLength() {
        Check.promise("20: length 2 to 11");
        for (int first = 0; first < 12; first++) {
            ToneRows x = Rows.of(Rows.PIECE, Rows.PIECE);
            x.take(0, ToneRows.PRIME, first, 1);
            Check.due("length 2, from " + first, x.mostKept(1, 2), 24 + first);
            Check.due("length 10, from " + first, x.mostKept(1, 10), 24 + first);
            // The form six above has the row's first and last tone at its ends too.
            Check.due("length 11, from " + first, x.mostKept(1, 11), (first + 6) % 12);
        }
        Check.illegalArgument("length 1", r -> r.mostKept(0, 1));
        Check.illegalArgument("length 12", r -> r.mostKept(1, 12));
        Check.outOfBounds("length 12 of row 2", r -> r.mostKept(2, 12));
        Check.outOfBounds("length 1 of row -1", r -> r.mostKept(-1, 1));
    }

    private static void mostKeptLeavesOutTheRowItself() {
        Check.promise("20: the PRIME form that begins with the first tone of the row is left out, no other one");
        for (int first = 0; first < 12; first++) {
            ToneRows x = Rows.of(Rows.ASCENDING, Rows.LYRIC);
            x.rotate(0, first);
            for (int length = 2; length <= 11; length++) {
                Check.due("ascending from " + first + ", length " + length, x.mostKept(0, length),
                        12 + (first + 11) % 12);
            }
            x.take(1, ToneRows.PRIME, first, 1);
            Check.due("Berg's row from " + first, x.mostKept(1, 2), (first + 6) % 12);
        }
    }

    private static void cutsBeforeAllAndAfterAll() {
        Check.promise("21: the numbers i from 0 to 12: 0 and 12 are always cuts");
        for (int code = 0; code < 48; code++) {
            ToneRows x = Rows.of(Rows.PIECE, Rows.LYRIC);
            for (int other = 0; other < 48; other++) {
                int cuts = x.cuts(code, other);
                Check.due("the ends of " + code + " with " + other, cuts & Rows.set(0, 12), Rows.set(0, 12));
                Check.due("more than 12 of " + code + " with " + other, cuts >> 13, 0);
            }
        }
    }

    private static void eachCutAlone() {
        Check.promise("21: the first i tones and the first 12 - i tones are, together, all twelve");
        for (int cut = 0; cut < 12; cut++) {
            ToneRows x = new ToneRows();
            x.rotate(1, cut);
            Check.due("from 0, and from " + cut, x.cuts(0, cut), Rows.set(0, cut, 12));
            Check.due("from " + cut + ", and from 0", x.cuts(cut, 0), Rows.set(0, 12 - cut, 12));
        }
    }

    private static void everyCut() {
        Check.promise("21: every number is a cut");
        for (int code = 0; code < 48; code++) {
            ToneRows x = Rows.of(Rows.LYRIC, Rows.PIECE);
            x.take(1, ToneRows.PRIME, 3, 0);
            int backwards = (code + 24) % 48;
            Check.due("the form " + code + " and the same backwards", x.cuts(code, backwards), 8191);
        }
    }

    private static void cutsOfTheFirstAndTheLastForm() {
        Check.promise("21: code of the form of the row 0, other of the form of the row 1: 0 to 47");
        ToneRows x = Rows.of(Rows.ASCENDING, MIXED);
        Check.due("ascending from 0, MIXED from 0", x.cuts(0, 0), Rows.set(0, 12));
        Check.due("ascending from 0, MIXED from 6", x.cuts(0, 6), Rows.set(0, 6, 12));
        Check.due("ascending from 6, MIXED from 0", x.cuts(6, 0), Rows.set(0, 6, 12));
        Check.due("ascending from 0 at last, MIXED from 0", x.cuts(47, 0), Rows.set(0, 12));
        Check.due("ascending from 6 at last, MIXED from 0", x.cuts(41, 0), Rows.set(0, 6, 12));
        Check.due("descending from 11, MIXED from 0", x.cuts(23, 0), Rows.set(0, 6, 7, 11, 12));
        Check.due("descending to 0, MIXED from 0", x.cuts(24, 0), Rows.set(0, 6, 7, 11, 12));
        Check.due("ascending from 8, MIXED backwards to 11", x.cuts(8, 47), Rows.set(0, 12));
        Check.illegalArgument("-1 with 47", r -> r.cuts(-1, 47));
        Check.illegalArgument("48 with 0", r -> r.cuts(48, 0));
        Check.illegalArgument("0 with -1", r -> r.cuts(0, -1));
        Check.illegalArgument("47 with 48", r -> r.cuts(47, 48));
    }
}
