/** Promises 1 to 8. */
final class RowsTest {
    private RowsTest() {
    }

    static void run() {
        newObject();
        put();
        take();
        multiply();
        rotate();
        tone();
        interval();
        hasAllIntervals();
    }

    private static void newObject() {
        Check.promise("1: a new object");
        ToneRows x = new ToneRows();
        Check.due("row 0", Rows.tones(x, 0), Rows.list(Rows.ASCENDING));
        Check.due("row 1", Rows.tones(x, 1), Rows.list(Rows.ASCENDING));
        Check.due("the tones of the phrase", x.erase(), 0);
        ToneRows other = new ToneRows();
        other.put(0, 0, 5);
        other.write(4);
        Check.due("row 0 while another object changes", Rows.tones(x, 0), Rows.list(Rows.ASCENDING));
        Check.due("the phrase while another object changes", x.erase(), 0);
    }

    private static void put() {
        Check.promise("2: put");
        ToneRows x = new ToneRows();
        Check.due("the tone at place 3", x.put(0, 3, 7), 3);
        Check.due("row 0 with 7 at 3", Rows.tones(x, 0), Rows.list(0, 1, 2, 7, 4, 5, 6, 3, 8, 9, 10, 11));
        Check.due("row 1, not named", Rows.tones(x, 1), Rows.list(Rows.ASCENDING));
        Check.due("the tone at place 0", x.put(0, 0, 11), 0);
        Check.due("the tone at place 11", x.put(0, 11, 7), 0);
        Check.due("row 0 after the edges", Rows.tones(x, 0), Rows.list(11, 1, 2, 0, 4, 5, 6, 3, 8, 9, 10, 7));
        Check.due("a tone put where it is", x.put(0, 4, 4), 4);
        Check.due("row 0 then", Rows.tones(x, 0), Rows.list(11, 1, 2, 0, 4, 5, 6, 3, 8, 9, 10, 7));
        Check.due("the tone at place 11 of row 1", x.put(1, 11, 0), 11);
        Check.due("row 1 with 0 at 11", Rows.tones(x, 1), Rows.list(11, 1, 2, 3, 4, 5, 6, 7, 8, 9, 10, 0));
        Check.due("row 0, not named", Rows.tones(x, 0), Rows.list(11, 1, 2, 0, 4, 5, 6, 3, 8, 9, 10, 7));

        for (int row : Rows.NO_ROW) {
            Check.outOfBounds("put in row " + row, r -> r.put(row, 0, 1));
            Check.outOfBounds("put in row " + row + " of no tone", r -> r.put(row, 0, 12));
        }
        for (int bad : Rows.NOT_0_TO_11) {
            Check.outOfBounds("put at " + bad, r -> r.put(0, bad, 1));
            Check.outOfBounds("put at " + bad + " of no tone", r -> r.put(1, bad, bad));
            Check.illegalArgument("put of " + bad, r -> r.put(0, 0, bad));
            Check.illegalArgument("put of " + bad + " at the end", r -> r.put(1, 11, bad));
        }
    }

    private static void take() {
        Check.promise("3: take");
        ToneRows x = Rows.of(Rows.PIECE);
        Check.due("the begin of PRIME 0", x.take(0, 0, 0, 1), 0);
        Check.due("PRIME 0", Rows.tones(x, 1), Rows.list(0, 7, 2, 1, 11, 8, 3, 5, 9, 10, 4, 6));
        Check.due("the begin of INVERSION 3", x.take(0, 1, 3, 1), 3);
        Check.due("INVERSION 3", Rows.tones(x, 1), Rows.list(3, 8, 1, 2, 4, 7, 0, 10, 6, 5, 11, 9));
        Check.due("the begin of RETROGRADE 10", x.take(0, 2, 10, 1), 4);
        Check.due("RETROGRADE 10", Rows.tones(x, 1), Rows.list(4, 2, 8, 7, 3, 1, 6, 9, 11, 0, 5, 10));
        Check.due("the begin of RETROGRADE_INVERSION 3", x.take(0, 3, 3, 1), 9);
        Check.due("RETROGRADE_INVERSION 3", Rows.tones(x, 1), Rows.list(9, 11, 5, 6, 10, 0, 7, 4, 2, 1, 8, 3));
        Check.due("the row that the forms were of", Rows.tones(x, 0), Rows.list(Rows.PIECE));

        Check.due("the begin of its own INVERSION 11", x.take(0, 1, 11, 0), 11);
        Check.due("row 0 then", Rows.tones(x, 0), Rows.list(11, 4, 9, 10, 0, 3, 8, 6, 2, 1, 7, 5));
        Check.due("row 1, not the target", Rows.tones(x, 1), Rows.list(9, 11, 5, 6, 10, 0, 7, 4, 2, 1, 8, 3));
        Check.due("the begin of its own RETROGRADE 9", x.take(1, 2, 9, 1), 3);
        Check.due("row 1 then", Rows.tones(x, 1), Rows.list(3, 8, 1, 2, 4, 7, 0, 10, 6, 5, 11, 9));
        Check.due("the begin of row 1 as row 0", x.take(1, 0, 3, 0), 3);
        Check.due("row 0 as row 1", Rows.tones(x, 0), Rows.tones(x, 1));
        x.put(0, 0, 9);
        Check.due("row 1 while its copy changes", Rows.tones(x, 1), Rows.list(3, 8, 1, 2, 4, 7, 0, 10, 6, 5, 11, 9));

        for (int row : Rows.NO_ROW) {
            Check.outOfBounds("take of row " + row, r -> r.take(row, 0, 0, 0));
            Check.outOfBounds("take as row " + row, r -> r.take(0, 0, 0, row));
            Check.outOfBounds("take of row " + row + ", no kind", r -> r.take(row, 4, 0, 0));
            Check.outOfBounds("take as row " + row + ", no kind", r -> r.take(1, -1, 0, row));
            Check.outOfBounds("take as row " + row + ", no index", r -> r.take(1, 0, 12, row));
        }
        for (int bad : Rows.NOT_0_TO_3) {
            Check.illegalArgument("take of kind " + bad, r -> r.take(0, bad, 0, 1));
        }
        for (int bad : Rows.NOT_0_TO_11) {
            Check.illegalArgument("take of index " + bad, r -> r.take(1, 3, bad, 1));
        }
    }

    private static void multiply() {
        Check.promise("4: multiply");
        ToneRows x = Rows.of(Rows.CONCERTO, Rows.PIECE);
        Check.due("the begin times 1", x.multiply(1, 1), 10);
        Check.due("times 1", Rows.tones(x, 1), Rows.list(Rows.PIECE));
        Check.due("the begin times 5", x.multiply(1, 5), 2);
        Check.due("times 5", Rows.tones(x, 1), Rows.list(2, 1, 0, 7, 9, 6, 5, 3, 11, 4, 10, 8));
        Check.due("the begin times 5 again", x.multiply(1, 5), 10);
        Check.due("times 25", Rows.tones(x, 1), Rows.list(Rows.PIECE));
        Check.due("the begin times 7", x.multiply(1, 7), 10);
        Check.due("times 7", Rows.tones(x, 1), Rows.list(10, 11, 0, 5, 3, 6, 7, 9, 1, 8, 2, 4));
        Check.due("the other row", Rows.tones(x, 0), Rows.list(Rows.CONCERTO));
        Check.due("the begin times 11", x.multiply(0, 11), 1);
        Check.due("times 11", Rows.tones(x, 0), Rows.list(1, 2, 10, 9, 5, 6, 4, 8, 7, 0, 11, 3));

        for (int row : Rows.NO_ROW) {
            Check.outOfBounds("multiply of row " + row, r -> r.multiply(row, 5));
            Check.outOfBounds("multiply of row " + row + " by 2", r -> r.multiply(row, 2));
        }
        for (int factor : new int[] {-11, -7, -1, 0, 2, 3, 4, 6, 8, 9, 10, 12, 13, 17,
                Integer.MIN_VALUE, Integer.MAX_VALUE}) {
            Check.illegalArgument("multiply by " + factor, r -> r.multiply(0, factor));
            Check.illegalArgument("multiply of row 1 by " + factor, r -> r.multiply(1, factor));
        }
    }

    private static void rotate() {
        Check.promise("5: rotate");
        ToneRows x = Rows.of(Rows.PIECE);
        Check.due("the begin rotated by 0", x.rotate(0, 0), 10);
        Check.due("rotated by 0", Rows.tones(x, 0), Rows.list(Rows.PIECE));
        Check.due("the begin rotated by 1", x.rotate(0, 1), 5);
        Check.due("rotated by 1", Rows.tones(x, 0), Rows.list(5, 0, 11, 9, 6, 1, 3, 7, 8, 2, 4, 10));
        Check.due("the begin rotated by 11", x.rotate(0, 11), 10);
        Check.due("rotated by 12 in all", Rows.tones(x, 0), Rows.list(Rows.PIECE));
        Check.due("the begin rotated by 5", x.rotate(0, 5), 6);
        Check.due("rotated by 5", Rows.tones(x, 0), Rows.list(6, 1, 3, 7, 8, 2, 4, 10, 5, 0, 11, 9));
        Check.due("the other row", Rows.tones(x, 1), Rows.list(Rows.ASCENDING));
        Check.due("the begin of row 1 rotated by 11", x.rotate(1, 11), 11);
        Check.due("row 1 rotated by 11", Rows.tones(x, 1), Rows.list(11, 0, 1, 2, 3, 4, 5, 6, 7, 8, 9, 10));

        for (int row : Rows.NO_ROW) {
            Check.outOfBounds("rotate of row " + row, r -> r.rotate(row, 1));
            Check.outOfBounds("rotate of row " + row + " by 12", r -> r.rotate(row, 12));
        }
        for (int by : Rows.NOT_0_TO_11) {
            Check.illegalArgument("rotate by " + by, r -> r.rotate(0, by));
            Check.illegalArgument("rotate of row 1 by " + by, r -> r.rotate(1, by));
        }
    }

    private static void tone() {
        Check.promise("6: tone");
        ToneRows x = Rows.of(Rows.PIECE, Rows.CONCERTO);
        for (int place = 0; place < 12; place++) {
            Check.due("row 0 at " + place, x.tone(0, place), Rows.PIECE[place]);
            Check.due("row 1 at " + place, x.tone(1, place), Rows.CONCERTO[place]);
        }
        Check.onlyComputes("tone", r -> r.tone(0, 5));
        for (int row : Rows.NO_ROW) {
            Check.outOfBounds("tone of row " + row, r -> r.tone(row, 0));
        }
        for (int place : Rows.NOT_0_TO_11) {
            Check.outOfBounds("tone at " + place, r -> r.tone(0, place));
            Check.outOfBounds("tone of row 1 at " + place, r -> r.tone(1, place));
        }
    }

    private static void interval() {
        Check.promise("7: interval");
        ToneRows x = Rows.of(Rows.PIECE, Rows.LYRIC);
        int[] inPiece = {7, 7, 11, 10, 9, 7, 2, 4, 1, 6, 2};
        int[] inLyric = {11, 8, 9, 10, 7, 6, 5, 2, 3, 4, 1};
        for (int place = 0; place < 11; place++) {
            Check.due("row 0 from " + place, x.interval(0, place), inPiece[place]);
            Check.due("row 1 from " + place, x.interval(1, place), inLyric[place]);
        }
        Check.onlyComputes("interval", r -> r.interval(0, 5));
        for (int row : Rows.NO_ROW) {
            Check.outOfBounds("interval of row " + row, r -> r.interval(row, 0));
        }
        for (int place : new int[] {-1, 11, 12, Integer.MIN_VALUE, Integer.MAX_VALUE}) {
            Check.outOfBounds("interval from " + place, r -> r.interval(0, place));
            Check.outOfBounds("interval of row 1 from " + place, r -> r.interval(1, place));
        }
    }

    private static void hasAllIntervals() {
        Check.promise("8: hasAllIntervals");
        ToneRows x = Rows.of(Rows.LYRIC, Rows.PIECE);
        Check.yes("Berg's row", x.hasAllIntervals(0));
        Check.no("a row with three sevens", x.hasAllIntervals(1));
        x.take(0, ToneRows.INVERSION, 7, 1);
        Check.yes("an inversion of Berg's row", x.hasAllIntervals(1));
        Rows.fill(x, 0, new int[] {0, 1, 3, 2, 6, 11, 7, 4, 10, 5, 8, 9});
        Check.no("a row whose last interval alone came before", x.hasAllIntervals(0));
        Check.no("a new row", new ToneRows().hasAllIntervals(0));
        Check.onlyComputes("hasAllIntervals", r -> r.hasAllIntervals(0) ? 1 : 0);
        for (int row : Rows.NO_ROW) {
            Check.outOfBounds("hasAllIntervals of row " + row, r -> r.hasAllIntervals(row) ? 1 : 0);
        }
    }
}
