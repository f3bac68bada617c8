/** The example that README.md shows. */
final class ReadmeTest {
    private ReadmeTest() {
    }

    static void run() {
        Check.promise("the example of README.md");
        ToneRows x = new ToneRows();
        int[] piece = {10, 5, 0, 11, 9, 6, 1, 3, 7, 8, 2, 4};
        for (int place = 0; place < 12; place++) {
            x.put(0, place, piece[place]);
        }
        Check.due("INVERSION 3 at 0", x.toneOf(0, ToneRows.INVERSION, 3, 0), 3);
        Check.due("INVERSION 3 at 1", x.toneOf(0, ToneRows.INVERSION, 3, 1), 8);
        Check.due("the forms that combine", x.combining(0), Rows.bits(15, 34));
        Check.due("the begin of the form taken", x.take(0, ToneRows.INVERSION, 3, 1), 3);
        Check.due("row 1 then", Rows.tones(x, 1), Rows.list(3, 8, 1, 2, 4, 7, 0, 10, 6, 5, 11, 9));
        Check.due("the form that row 1 is", x.formOfOther(0), 15);
        Check.due("the cuts of both rows", x.cuts(10, 3), Rows.set(0, 6, 12));
        Check.due("the first three tones", x.segment(0, 0, 3), Rows.set(0, 5, 10));
        Check.due("their class", x.classOf(x.segment(0, 0, 3)), Rows.set(0, 2, 7));
        Check.due("the length with 6", x.write(6), 1);
        Check.due("the length with 1", x.write(1), 2);
        Check.due("the forms with 6 1", x.formsWithPhrase(0), Rows.bits(6, 10, 11, 37, 44, 45));
        Check.due("the place of 6 1", x.placeOfPhrase(0, 10), 5);
        Check.due("the place of 6 1 in PRIME 0", x.placeOfPhrase(0, 0), ToneRows.NONE);
        Check.due("the begin of row 1 completed", x.complete(1), 6);
        Check.due("row 1 completed", Rows.tones(x, 1), Rows.list(6, 1, 3, 8, 2, 4, 7, 0, 10, 5, 11, 9));
        Check.due("the tones erased", x.erase(), 2);
        Check.due("the tones erased again", x.erase(), 0);
    }
}
