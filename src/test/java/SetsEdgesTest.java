/** Promises 13 to 17, each sentence that names an edge: no tone, all tones, the end of the row, wrap-arounds. */
final class SetsEdgesTest {
    private static final int[] SIZES = {1, 2, 3, 4, 6, 12};

    private SetsEdgesTest() {
    }

    static void run() {
        everySegment();
        segmentsBeyondPlace11();
        segmentsOfNoPlaceAndNoLength();
        classOfNoToneAndOfAll();
        classesOfOneToneAndOfTwo();
        classByAddingOrBySubtracting();
        pairsOfNoToneAndOfAll();
        pairsWrapAround();
        pairsBySixCountOnce();
        everyPairHasOneInterval();
        combiningFirstAndLastForms();
        combiningOneFormAlone();
        derivedFromOneToneAndFromTwelve();
        derivedButForOneSegment();
    }

    private static void everySegment() {
        Check.promise("13: place 0 to 11, length 1 to 12");
        for (int place = 0; place < 12; place++) {
            ToneRows x = Rows.of(Rows.PIECE, Rows.LYRIC);
            int set0 = 0;
            int set1 = 0;
            for (int length = 1; place + length <= 12; length++) {
                set0 |= 1 << Rows.PIECE[place + length - 1];
                set1 |= 1 << Rows.LYRIC[place + length - 1];
                Check.due("row 0 at " + place + ", length " + length, x.segment(0, place, length), set0);
                Check.due("row 1 at " + place + ", length " + length, x.segment(1, place, length), set1);
            }
        }
    }

    private static void segmentsBeyondPlace11() {
        Check.promise("13: IllegalArgumentException if the segment goes beyond place 11");
        for (int place = 1; place < 12; place++) {
            for (int length = 13 - place; length <= 12; length++) {
                int at = place;
                int tones = length;
                Check.illegalArgument("row 0 at " + at + ", length " + tones, r -> r.segment(0, at, tones));
                Check.illegalArgument("row 1 at " + at + ", length " + tones, r -> r.segment(1, at, tones));
            }
        }
    }

    private static void segmentsOfNoPlaceAndNoLength() {
        Check.promise("13: IndexOutOfBoundsException, also where both apply");
        Check.outOfBounds("place 12, length 0", r -> r.segment(0, 12, 0));
        Check.outOfBounds("place 12, length 1", r -> r.segment(0, 12, 1));
        Check.outOfBounds("place -1, length 13", r -> r.segment(1, -1, 13));
        Check.outOfBounds("place -1, length 2", r -> r.segment(1, -1, 2));
        Check.outOfBounds("row 2, beyond place 11", r -> r.segment(2, 11, 2));
        Check.outOfBounds("row -1, length 0", r -> r.segment(-1, 0, 0));
        Check.illegalArgument("place 11, length 0", r -> r.segment(0, 11, 0));
        Check.illegalArgument("place 0, length 13", r -> r.segment(0, 0, 13));
    }

    private static void classOfNoToneAndOfAll() {
        Check.promise("14: set 0 to 4095");
        ToneRows x = new ToneRows();
        Check.due("no tone", x.classOf(0), 0);
        Check.due("all tones", x.classOf(4095), 4095);
        for (int tone = 0; tone < 12; tone++) {
            Check.due("all tones but " + tone, x.classOf(4095 - (1 << tone)), 2047);
        }
        Check.illegalArgument("-1", r -> r.classOf(-1));
        Check.illegalArgument("4096", r -> r.classOf(4096));
    }

    private static void classesOfOneToneAndOfTwo() {
        Check.promise("14: the class of one tone, and of two");
        ToneRows x = new ToneRows();
        for (int tone = 0; tone < 12; tone++) {
            Check.due("the tone " + tone, x.classOf(1 << tone), 1);
            for (int up = 1; up <= 6; up++) {
                Check.due(tone + " and " + up + " above", x.classOf(1 << tone | 1 << (tone + up) % 12), 1 | 1 << up);
            }
        }
    }

    private static void classByAddingOrBySubtracting() {
        Check.promise("14: the least number, by adding a tone and by subtracting from a tone");
        ToneRows x = new ToneRows();
        Check.due("0 1 3, the least itself", x.classOf(Rows.set(0, 1, 3)), Rows.set(0, 1, 3));
        Check.due("10 11 1, by adding", x.classOf(Rows.set(10, 11, 1)), Rows.set(0, 1, 3));
        Check.due("0 2 3, by subtracting", x.classOf(Rows.set(0, 2, 3)), Rows.set(0, 1, 3));
        Check.due("10 0 1, by subtracting and around", x.classOf(Rows.set(10, 0, 1)), Rows.set(0, 1, 3));
        Check.due("6 7 8 9 10 11", x.classOf(Rows.set(6, 7, 8, 9, 10, 11)), Rows.set(0, 1, 2, 3, 4, 5));
        Check.due("9 10 11 0 1 2", x.classOf(Rows.set(9, 10, 11, 0, 1, 2)), Rows.set(0, 1, 2, 3, 4, 5));
        Check.due("11 3 7", x.classOf(Rows.set(11, 3, 7)), Rows.set(0, 4, 8));
    }

    private static void pairsOfNoToneAndOfAll() {
        Check.promise("15: set 0 to 4095, interval 1 to 6");
        ToneRows x = new ToneRows();
        Check.due("no tone by 1", x.pairs(0, 1), 0);
        Check.due("no tone by 6", x.pairs(0, 6), 0);
        Check.due("all tones by 1", x.pairs(4095, 1), 12);
        Check.due("all tones by 6", x.pairs(4095, 6), 6);
        for (int tone = 0; tone < 12; tone++) {
            Check.due("the tone " + tone + " by 1", x.pairs(1 << tone, 1), 0);
            Check.due("the tone " + tone + " by 6, of different tones", x.pairs(1 << tone, 6), 0);
        }
        Check.illegalArgument("all tones by 0", r -> r.pairs(4095, 0));
        Check.illegalArgument("all tones by 7", r -> r.pairs(4095, 7));
        Check.illegalArgument("4096 by 1", r -> r.pairs(4096, 1));
        Check.illegalArgument("-1 by 6", r -> r.pairs(-1, 6));
        Check.illegalArgument("4096 by 7", r -> r.pairs(4096, 7));
    }

    private static void pairsWrapAround() {
        Check.promise("15: counted in the direction in which it is 6 at most");
        for (int tone = 0; tone < 12; tone++) {
            ToneRows x = new ToneRows();
            for (int up = 1; up <= 5; up++) {
                int two = 1 << tone | 1 << (tone + up) % 12;
                for (int interval = 1; interval <= 6; interval++) {
                    Check.due(tone + " and " + up + " above, by " + interval, x.pairs(two, interval),
                            interval == up ? 1 : 0);
                }
            }
        }
    }

    private static void pairsBySixCountOnce() {
        Check.promise("15: a pair by 6 counts once");
        ToneRows x = new ToneRows();
        int set = 0;
        for (int tone = 0; tone < 6; tone++) {
            Check.due(tone + " and " + (tone + 6), x.pairs(1 << tone | 1 << (tone + 6), 6), 1);
            set |= 1 << tone | 1 << (tone + 6);
            Check.due("the tones up to " + tone + ", and six above", x.pairs(set, 6), tone + 1);
        }
    }

    private static void everyPairHasOneInterval() {
        Check.promise("15: pairs of different tones: each counts at one interval");
        ToneRows x = new ToneRows();
        for (int set = 0; set < 4096; set++) {
            if (set % 64 == 0) {
                x = new ToneRows();
            }
            int all = 0;
            for (int interval = 1; interval <= 6; interval++) {
                all += x.pairs(set, interval);
            }
            int tones = Integer.bitCount(set);
            Check.due("the pairs of " + set, all, tones * (tones - 1) / 2);
        }
    }

    private static void combiningFirstAndLastForms() {
        Check.promise("16: bit c for the form with the code c: 0 to 47");
        long first = Rows.bits(0, 2, 4, 6, 8, 10, 12, 14, 16, 18, 20, 22);
        long last = Rows.bits(25, 27, 29, 31, 33, 35, 37, 39, 41, 43, 45, 47);
        ToneRows x = Rows.of(new int[] {1, 3, 5, 7, 9, 11, 0, 2, 4, 6, 8, 10}, Rows.PIECE);
        Check.due("odd tones first", x.combining(0), first | last);
        Check.due("the row beside it", x.combining(1), Rows.bits(15, 34));
    }

    private static void combiningOneFormAlone() {
        Check.promise("16: the first hexachord of the row and of the form have no tone in common");
        for (int first = 0; first < 12; first++) {
            ToneRows x = Rows.of(new int[] {0, 1, 2, 3, 5, 6, 4, 7, 8, 9, 10, 11});
            x.take(0, ToneRows.PRIME, first, 1);
            Check.due("a row from " + first + " that only combines with itself backwards", x.combining(1),
                    Rows.bits(24 + first));
        }
    }

    private static void derivedFromOneToneAndFromTwelve() {
        Check.promise("17: size 1, 2, 3, 4, 6 or 12");
        ToneRows x = Rows.of(new int[] {0, 1, 2, 5, 6, 3, 4, 7, 8, 9, 10, 11}, Rows.ASCENDING);
        for (int size : SIZES) {
            Check.due("a row of two classes of six, by " + size, (Object) x.isDerived(0, size),
                    size == 1 || size == 12);
            Check.yes("the ascending row by " + size, x.isDerived(1, size));
        }
    }

    private static void derivedButForOneSegment() {
        Check.promise("17: all segments that begin at the place 0, at the place size, and so on");
        by(2, true, 0, 1, 3, 2, 4, 5, 7, 6, 8, 9, 11, 10);
        by(2, false, 0, 1, 2, 3, 4, 5, 6, 7, 8, 10, 9, 11);
        by(2, false, 0, 2, 1, 3, 4, 5, 6, 7, 8, 9, 10, 11);
        by(3, true, 0, 1, 3, 2, 4, 5, 6, 7, 9, 8, 10, 11);
        by(3, false, 0, 1, 2, 3, 4, 5, 6, 7, 9, 8, 10, 11);
        by(4, true, 0, 1, 2, 3, 7, 6, 5, 4, 8, 9, 10, 11);
        by(4, false, 0, 1, 2, 4, 3, 5, 6, 7, 8, 9, 10, 11);
        by(4, false, 0, 1, 2, 3, 4, 5, 6, 8, 7, 9, 10, 11);
        by(6, true, 0, 2, 1, 3, 4, 5, 11, 10, 9, 8, 6, 7);
        by(6, true, 0, 2, 4, 5, 7, 9, 1, 3, 6, 8, 10, 11);
        by(6, false, 0, 1, 2, 5, 6, 9, 3, 4, 7, 8, 10, 11);
    }

    private static void by(int size, boolean due, int... tones) {
        ToneRows x = Rows.of(Rows.PIECE, tones);
        Check.due(Rows.list(tones) + " by " + size, (Object) x.isDerived(1, size), due);
        Check.no("the row beside it by 3", x.isDerived(0, 3));
    }
}
