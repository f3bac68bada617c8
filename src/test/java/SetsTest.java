/** Promises 13 to 17. */
final class SetsTest {
    private SetsTest() {
    }

    static void run() {
        segment();
        classOf();
        pairs();
        combining();
        isDerived();
    }

    private static void segment() {
        Check.promise("13: segment");
        ToneRows x = Rows.of(Rows.PIECE, Rows.CONCERTO);
        Check.due("the first tone", x.segment(0, 0, 1), Rows.set(10));
        Check.due("the last tone", x.segment(0, 11, 1), Rows.set(4));
        Check.due("the first six", x.segment(0, 0, 6), Rows.set(10, 5, 0, 11, 9, 6));
        Check.due("the last six", x.segment(0, 6, 6), Rows.set(1, 3, 7, 8, 2, 4));
        Check.due("three of row 1", x.segment(1, 3, 3), Rows.set(3, 7, 6));
        Check.due("eleven from 1", x.segment(1, 1, 11), 4095 - Rows.set(11));
        Check.due("all twelve", x.segment(1, 0, 12), 4095);
        Check.onlyComputes("segment", r -> r.segment(0, 2, 5));

        for (int row : Rows.NO_ROW) {
            Check.outOfBounds("segment of row " + row, r -> r.segment(row, 0, 1));
            Check.outOfBounds("segment of row " + row + ", no length", r -> r.segment(row, 0, 0));
        }
        for (int bad : Rows.NOT_0_TO_11) {
            Check.outOfBounds("segment at " + bad, r -> r.segment(0, bad, 1));
            Check.outOfBounds("segment at " + bad + ", no length", r -> r.segment(1, bad, 13));
        }
        for (int bad : Rows.NO_LENGTH) {
            Check.illegalArgument("segment of length " + bad, r -> r.segment(0, 0, bad));
            Check.illegalArgument("segment of length " + bad + " at the end", r -> r.segment(1, 11, bad));
        }
        Check.illegalArgument("a segment beyond the end by one", r -> r.segment(0, 6, 7));
        Check.illegalArgument("a segment beyond the end from 1", r -> r.segment(0, 1, 12));
        Check.illegalArgument("a segment beyond the end from 11", r -> r.segment(1, 11, 2));
    }

    private static void classOf() {
        Check.promise("14: classOf");
        ToneRows x = new ToneRows();
        Check.due("no tone", x.classOf(0), 0);
        Check.due("all tones", x.classOf(4095), 4095);
        Check.due("all tones but 0", x.classOf(4094), 2047);
        Check.due("the tone 0", x.classOf(1), 1);
        Check.due("the tone 11", x.classOf(2048), 1);
        Check.due("the major triad", x.classOf(Rows.set(0, 4, 7)), Rows.set(0, 3, 7));
        Check.due("the minor triad", x.classOf(Rows.set(0, 3, 7)), Rows.set(0, 3, 7));
        Check.due("11, 0 and 1", x.classOf(Rows.set(11, 0, 1)), 7);
        Check.due("the tones of the other whole-tone scale", x.classOf(2730), 1365);
        // Here the books of Forte and of Rahn differ; the least number is Rahn's.
        Check.due("0 1 3 7 8", x.classOf(Rows.set(0, 1, 3, 7, 8)), Rows.set(0, 1, 5, 6, 8));
        Check.due("0 1 5 6 8", x.classOf(Rows.set(0, 1, 5, 6, 8)), Rows.set(0, 1, 5, 6, 8));
        Check.onlyComputes("classOf", r -> r.classOf(145));
        for (int bad : Rows.NO_SET) {
            Check.illegalArgument("classOf " + bad, r -> r.classOf(bad));
        }
    }

    private static void pairs() {
        Check.promise("15: pairs");
        ToneRows x = new ToneRows();
        int[] inTriad = {0, 0, 1, 1, 1, 0};
        int[] inWholeTones = {0, 6, 0, 6, 0, 3};
        int[] inAll = {12, 12, 12, 12, 12, 6};
        for (int interval = 1; interval <= 6; interval++) {
            Check.due("none by " + interval, x.pairs(0, interval), 0);
            Check.due("one tone by " + interval, x.pairs(2048, interval), 0);
            Check.due("the triad by " + interval, x.pairs(Rows.set(0, 4, 7), interval), inTriad[interval - 1]);
            Check.due("whole tones by " + interval, x.pairs(2730, interval), inWholeTones[interval - 1]);
            Check.due("all by " + interval, x.pairs(4095, interval), inAll[interval - 1]);
        }
        Check.due("11 and 0 by 1", x.pairs(Rows.set(11, 0), 1), 1);
        Check.due("1 and 8 by 5", x.pairs(Rows.set(1, 8), 5), 1);
        Check.due("5 and 11 by 6", x.pairs(Rows.set(5, 11), 6), 1);
        Check.onlyComputes("pairs", r -> r.pairs(145, 3));
        for (int bad : Rows.NO_SET) {
            Check.illegalArgument("pairs of " + bad, r -> r.pairs(bad, 1));
        }
        for (int bad : new int[] {-1, 0, 7, 12, 13, Integer.MIN_VALUE, Integer.MAX_VALUE}) {
            Check.illegalArgument("pairs by " + bad, r -> r.pairs(4095, bad));
        }
    }

    private static void combining() {
        Check.promise("16: combining");
        ToneRows x = new ToneRows();
        Check.due("a new row", x.combining(0), Rows.bits(6, 23, 24, 41));
        Rows.fill(x, 1, Rows.PIECE);
        Check.due("Schoenberg's row", x.combining(1), Rows.bits(15, 34));
        Rows.fill(x, 0, Rows.CONCERTO);
        Check.due("Webern's row", x.combining(0), Rows.bits(1, 5, 9, 12, 16, 20, 27, 31, 35, 38, 42, 46));
        Rows.fill(x, 0, new int[] {0, 2, 4, 6, 8, 10, 1, 3, 5, 7, 9, 11});
        Check.due("a row of two whole-tone scales", x.combining(0),
                Rows.bits(1, 3, 5, 7, 9, 11, 13, 15, 17, 19, 21, 23, 24, 26, 28, 30, 32, 34, 36, 38, 40, 42, 44, 46));
        Check.onlyComputes("combining", r -> r.combining(0));
        for (int row : Rows.NO_ROW) {
            Check.outOfBounds("combining of row " + row, r -> r.combining(row));
        }
    }

    private static void isDerived() {
        Check.promise("17: isDerived");
        derived("a new row", Rows.of(Rows.PIECE), 1, 1, 2, 3, 4, 6, 12);
        derived("Schoenberg's row", Rows.of(Rows.PIECE), 0, 1, 6, 12);
        derived("Webern's row", Rows.of(Rows.CONCERTO), 0, 1, 3, 6, 12);
        derived("a row with other last three", Rows.of(new int[] {0, 1, 2, 4, 5, 6, 8, 9, 10, 3, 7, 11}), 0, 1, 12);
        derived("a row with other first three", Rows.of(new int[] {3, 7, 11, 0, 1, 2, 4, 5, 6, 8, 9, 10}), 0, 1, 12);
        derived("a row with other last two", Rows.of(new int[] {0, 1, 2, 3, 4, 5, 6, 7, 9, 10, 8, 11}), 0, 1, 4, 6, 12);
        Check.onlyComputes("isDerived", r -> r.isDerived(0, 3) ? 1 : 0);

        for (int row : Rows.NO_ROW) {
            Check.outOfBounds("isDerived of row " + row, r -> r.isDerived(row, 3) ? 1 : 0);
            Check.outOfBounds("isDerived of row " + row + ", no size", r -> r.isDerived(row, 5) ? 1 : 0);
        }
        for (int size : new int[] {-12, -3, -1, 0, 5, 7, 8, 9, 10, 11, 13, 24,
                Integer.MIN_VALUE, Integer.MAX_VALUE}) {
            Check.illegalArgument("isDerived by " + size, r -> r.isDerived(0, size) ? 1 : 0);
            Check.illegalArgument("isDerived of row 1 by " + size, r -> r.isDerived(1, size) ? 1 : 0);
        }
    }

    /** A row is derived by these sizes, and by no other one. */
    private static void derived(String what, ToneRows x, int row, int... sizes) {
        for (int size : new int[] {1, 2, 3, 4, 6, 12}) {
            Check.due(what + " by " + size, (Object) x.isDerived(row, size), Rows.list(sizes).contains(size));
        }
    }
}
