/** Promises 18 to 21. */
final class KeptTest {
    private KeptTest() {
    }

    static void run() {
        keptSets();
        longestKept();
        mostKept();
        cuts();
    }

    private static void keptSets() {
        Check.promise("18: keptSets");
        ToneRows x = Rows.of(Rows.PIECE);
        kept(x, 0, 10, 12, 11, 10, 9, 8, 7, 6, 5, 4, 3, 2, 1);
        kept(x, 0, 34, 12, 11, 10, 9, 8, 7, 6, 5, 4, 3, 2, 1);
        kept(x, 0, 15, 12, 2, 0, 0, 0, 2, 0, 0, 0, 0, 0, 1);
        kept(x, 0, 13, 12, 3, 0, 0, 0, 0, 0, 0, 0, 0, 0, 1);
        kept(x, 0, 47, 12, 0, 0, 0, 0, 1, 0, 0, 0, 0, 0, 1);
        kept(x, 1, 0, 12, 11, 10, 9, 8, 7, 6, 5, 4, 3, 2, 1);
        kept(x, 1, 6, 12, 10, 8, 6, 4, 2, 0, 0, 0, 0, 0, 1);
        kept(x, 1, 11, 12, 10, 9, 8, 7, 6, 5, 4, 3, 2, 1, 1);
        Rows.fill(x, 0, Rows.CONCERTO);
        kept(x, 0, 47, 12, 2, 0, 0, 0, 1, 1, 2, 1, 1, 1, 1);
        Check.onlyComputes("keptSets", r -> r.keptSets(0, 1, 3, 2));

        for (int row : Rows.NO_ROW) {
            Check.outOfBounds("keptSets of row " + row, r -> r.keptSets(row, 0, 0, 1));
            Check.outOfBounds("keptSets of row " + row + ", no kind", r -> r.keptSets(row, 4, 0, 1));
            Check.outOfBounds("keptSets of row " + row + ", no length", r -> r.keptSets(row, 0, 0, 13));
        }
        for (int bad : Rows.NOT_0_TO_3) {
            Check.illegalArgument("keptSets of kind " + bad, r -> r.keptSets(0, bad, 0, 1));
        }
        for (int bad : Rows.NOT_0_TO_11) {
            Check.illegalArgument("keptSets of index " + bad, r -> r.keptSets(1, 3, bad, 12));
        }
        for (int bad : Rows.NO_LENGTH) {
            Check.illegalArgument("keptSets of length " + bad, r -> r.keptSets(0, 0, 0, bad));
        }
    }

    /** How many sets a form keeps of the lengths 1, 2, and so on. */
    private static void kept(ToneRows x, int row, int code, int... counts) {
        for (int length = 1; length <= 12; length++) {
            Check.due("row " + row + ", form " + code + ", length " + length,
                    x.keptSets(row, code / 12, code % 12, length), counts[length - 1]);
        }
    }

    private static void longestKept() {
        Check.promise("19: longestKept");
        ToneRows x = Rows.of(Rows.SYMPHONY);
        longest(x, 1,
                12, 11, 10, 9, 8, 7, 6, 7, 8, 9, 10, 11,
                1, 1, 1, 1, 1, 1, 1, 1, 1, 1, 1, 1,
                1, 1, 1, 1, 1, 1, 1, 1, 1, 1, 1, 1,
                11, 10, 9, 8, 7, 6, 7, 8, 9, 10, 11, 12);
        longest(x, 0,
                2, 1, 1, 1, 1, 1, 2, 2, 2, 12, 2, 2,
                2, 2, 1, 1, 1, 1, 2, 1, 2, 4, 2, 3,
                2, 2, 2, 12, 2, 2, 2, 1, 1, 1, 1, 1,
                2, 1, 2, 4, 2, 3, 2, 2, 1, 1, 1, 1);
        Check.onlyComputes("longestKept", r -> r.longestKept(0, 3, 3));

        for (int row : Rows.NO_ROW) {
            Check.outOfBounds("longestKept of row " + row, r -> r.longestKept(row, 0, 0));
            Check.outOfBounds("longestKept of row " + row + ", no index", r -> r.longestKept(row, 0, 12));
        }
        for (int bad : Rows.NOT_0_TO_3) {
            Check.illegalArgument("longestKept of kind " + bad, r -> r.longestKept(0, bad, 0));
        }
        for (int bad : Rows.NOT_0_TO_11) {
            Check.illegalArgument("longestKept of index " + bad, r -> r.longestKept(1, 3, bad));
        }
    }

    private static void longest(ToneRows x, int row, int... lengths) {
        for (int code = 0; code < 48; code++) {
            Check.due("row " + row + ", form " + code, x.longestKept(row, code / 12, code % 12), lengths[code]);
        }
    }

    private static void mostKept() {
        Check.promise("20: mostKept");
        ToneRows x = Rows.of(Rows.PIECE, Rows.CONCERTO);
        ToneRows itsOwnRetrograde = Rows.of(Rows.LYRIC);
        for (int length = 2; length <= 10; length++) {
            Check.due("Schoenberg's row, length " + length, x.mostKept(0, length), 34);
            Check.due("Webern's row, length " + length, x.mostKept(1, length), 35);
            Check.due("Berg's row, length " + length, itsOwnRetrograde.mostKept(0, length), 11);
            Check.due("a new row, length " + length, itsOwnRetrograde.mostKept(1, length), 23);
        }
        Check.due("Schoenberg's row, length 11", x.mostKept(0, 11), 4);
        Check.due("Webern's row, length 11", x.mostKept(1, 11), 21);
        Check.onlyComputes("mostKept", r -> r.mostKept(0, 3));

        for (int row : Rows.NO_ROW) {
            Check.outOfBounds("mostKept of row " + row, r -> r.mostKept(row, 2));
            Check.outOfBounds("mostKept of row " + row + ", no length", r -> r.mostKept(row, 1));
        }
        for (int bad : new int[] {-1, 0, 1, 12, 13, Integer.MIN_VALUE, Integer.MAX_VALUE}) {
            Check.illegalArgument("mostKept of length " + bad, r -> r.mostKept(0, bad));
            Check.illegalArgument("mostKept of row 1, length " + bad, r -> r.mostKept(1, bad));
        }
    }

    private static void cuts() {
        Check.promise("21: cuts");
        ToneRows x = Rows.of(Rows.PIECE, Rows.CONCERTO);
        Check.due("the rows of Schoenberg and Webern", x.cuts(10, 0), Rows.set(0, 1, 12));
        Rows.fill(x, 0, Rows.CONCERTO);
        Rows.fill(x, 1, Rows.PIECE);
        Check.due("the rows of Webern and Schoenberg", x.cuts(0, 10), Rows.set(0, 11, 12));
        Rows.fill(x, 0, Rows.PIECE);
        Check.due("a row and the row itself", x.cuts(10, 10), Rows.set(0, 12));
        Check.due("a row and its inversion", x.cuts(10, 15), Rows.set(0, 6, 12));
        Check.due("a row and its retrograde", x.cuts(10, 34), 8191);
        Check.due("the last form and its retrograde", x.cuts(47, 23), 8191);
        Check.due("the first form and the last", new ToneRows().cuts(0, 47), Rows.set(0, 12));
        Check.onlyComputes("cuts", r -> r.cuts(3, 4));
        for (int bad : Rows.NOT_0_TO_47) {
            Check.illegalArgument("cuts of the form " + bad, r -> r.cuts(bad, 0));
            Check.illegalArgument("cuts with the form " + bad, r -> r.cuts(47, bad));
        }
    }
}
