/**
 * A workbench for two twelve-tone rows, their forms, and a phrase.
 *
 * <p>A run of tones (a row, a form, the phrase) is held in one long: four bits a place, the place 0
 * lowest. So two rows are the same if their numbers are, nothing is shared by mistake, and no call
 * makes an object.
 */
public final class ToneRows {
    public static final int NONE = -1;
    public static final int PRIME = 0, INVERSION = 1, RETROGRADE = 2, RETROGRADE_INVERSION = 3;

    private static final int TONES = 12;
    private static final int LAST = TONES - 1;
    private static final int KINDS = 4;
    private static final int FORMS = KINDS * TONES;
    private static final int HEXACHORD = 6;
    private static final int WIDEST_INTERVAL = 6;
    private static final int ALL_TONES = (1 << TONES) - 1;
    private static final long ALL_FORMS = (1L << FORMS) - 1;

    private static final int BITS_A_PLACE = 4;
    private static final long PLACE_0 = (1L << BITS_A_PLACE) - 1;

    private long row0;
    private long row1;
    private long phrase;
    private int phraseLength;

    public ToneRows() {
        long ascending = 0;
        for (int place = 0; place < TONES; place++) {
            ascending = withEntry(ascending, place, place);
        }
        row0 = ascending;
        row1 = ascending;
    }

    // ---- rows

    public int put(int row, int place, int tone) throws IndexOutOfBoundsException, IllegalArgumentException {
        requireRow(row);
        requirePlace(place, LAST);
        requireRange(tone, 0, LAST);
        long old = rowAt(row);
        int replaced = entryAt(old, place);
        long swapped = withEntry(old, placeIn(old, tone), replaced);
        setRow(row, withEntry(swapped, place, tone));
        return replaced;
    }

    public int take(int row, int kind, int index, int target)
            throws IndexOutOfBoundsException, IllegalArgumentException {
        requireRow(row);
        requireRow(target);
        requireForm(kind, index);
        return replaceRow(target, formWith(rowAt(row), codeOf(kind, index)));
    }

    public int multiply(int row, int factor) throws IndexOutOfBoundsException, IllegalArgumentException {
        requireRow(row);
        requireFactor(factor);
        long old = rowAt(row);
        long multiplied = 0;
        for (int place = 0; place < TONES; place++) {
            multiplied = withEntry(multiplied, place, wrap(entryAt(old, place) * factor));
        }
        return replaceRow(row, multiplied);
    }

    public int rotate(int row, int by) throws IndexOutOfBoundsException, IllegalArgumentException {
        requireRow(row);
        requireRange(by, 0, LAST);
        long old = rowAt(row);
        long rotated = 0;
        for (int place = 0; place < TONES; place++) {
            rotated = withEntry(rotated, place, entryAt(old, wrap(place + by)));
        }
        return replaceRow(row, rotated);
    }

    public int tone(int row, int place) throws IndexOutOfBoundsException {
        requireRow(row);
        requirePlace(place, LAST);
        return entryAt(rowAt(row), place);
    }

    public int interval(int row, int place) throws IndexOutOfBoundsException {
        requireRow(row);
        requirePlace(place, LAST - 1);
        return intervalAt(rowAt(row), place);
    }

    public boolean hasAllIntervals(int row) throws IndexOutOfBoundsException {
        requireRow(row);
        long tones = rowAt(row);
        int seen = 0;
        for (int place = 0; place < LAST; place++) {
            seen |= 1 << intervalAt(tones, place);
        }
        return Integer.bitCount(seen) == TONES - 1;
    }

    // ---- forms

    public int toneOf(int row, int kind, int index, int place)
            throws IndexOutOfBoundsException, IllegalArgumentException {
        requireRow(row);
        requirePlace(place, LAST);
        requireForm(kind, index);
        return entryAt(formWith(rowAt(row), codeOf(kind, index)), place);
    }

    public int matrix(int row, int line, int column) throws IndexOutOfBoundsException {
        requireRow(row);
        requirePlace(line, LAST);
        requirePlace(column, LAST);
        long tones = rowAt(row);
        int first = entryAt(tones, 0);
        int lineBegin = wrap(first - entryAt(tones, line) + first);
        return wrap(entryAt(tones, column) - first + lineBegin);
    }

    public int differentForms(int row) throws IndexOutOfBoundsException {
        requireRow(row);
        long tones = rowAt(row);
        long prime = formWith(tones, codeOf(PRIME, 0));
        // The 24 forms that run forwards always differ. If one that runs backwards is a prime,
        // then each of them is one of those 24.
        for (int code = codeOf(RETROGRADE, 0); code < FORMS; code++) {
            if (formWith(tones, code) == prime) {
                return FORMS / 2;
            }
        }
        return FORMS;
    }

    public int formOfOther(int row) throws IndexOutOfBoundsException {
        requireRow(row);
        long tones = rowAt(row);
        long other = rowAt(1 - row);
        for (int code = 0; code < FORMS; code++) {
            if (formWith(tones, code) == other) {
                return code;
            }
        }
        return NONE;
    }

    // ---- sets and hexachords

    public int segment(int row, int place, int length)
            throws IndexOutOfBoundsException, IllegalArgumentException {
        requireRow(row);
        requirePlace(place, LAST);
        requireRange(length, 1, TONES - place);
        return setOf(rowAt(row), place, length);
    }

    public int classOf(int set) throws IllegalArgumentException {
        requireRange(set, 0, ALL_TONES);
        return leastLike(set);
    }

    public int pairs(int set, int interval) throws IllegalArgumentException {
        requireRange(set, 0, ALL_TONES);
        requireRange(interval, 1, WIDEST_INTERVAL);
        int found = Integer.bitCount(set & transposed(set, interval));
        // Six up and six down lead to the same tone, so each such pair was found from both its tones.
        return interval == WIDEST_INTERVAL ? found / 2 : found;
    }

    public long combining(int row) throws IndexOutOfBoundsException {
        requireRow(row);
        long tones = rowAt(row);
        int own = setOf(tones, 0, HEXACHORD);
        long forms = 0;
        for (int code = 0; code < FORMS; code++) {
            if ((own & setOf(formWith(tones, code), 0, HEXACHORD)) == 0) {
                forms |= 1L << code;
            }
        }
        return forms;
    }

    public boolean isDerived(int row, int size) throws IndexOutOfBoundsException, IllegalArgumentException {
        requireRow(row);
        requireSize(size);
        long tones = rowAt(row);
        int wanted = leastLike(setOf(tones, 0, size));
        for (int i = 1; i < TONES; i++) {
            int place = i * size;
            if (place < TONES && leastLike(setOf(tones, place, size)) != wanted) {
                return false;
            }
        }
        return true;
    }

    // ---- what forms keep

    public int keptSets(int row, int kind, int index, int length)
            throws IndexOutOfBoundsException, IllegalArgumentException {
        requireRow(row);
        requireForm(kind, index);
        requireRange(length, 1, TONES);
        long tones = rowAt(row);
        return countKept(tones, formWith(tones, codeOf(kind, index)), length);
    }

    public int longestKept(int row, int kind, int index)
            throws IndexOutOfBoundsException, IllegalArgumentException {
        requireRow(row);
        requireForm(kind, index);
        long tones = rowAt(row);
        long places = placesOf(tones, formWith(tones, codeOf(kind, index)));
        int longest = 1;
        int length = 1;
        for (int place = 1; place < TONES; place++) {
            boolean goesOn = entryAt(places, place) == entryAt(places, place - 1) + 1;
            length = goesOn ? length + 1 : 1;
            longest = Math.max(longest, length);
        }
        return longest;
    }

    public int mostKept(int row, int length) throws IndexOutOfBoundsException, IllegalArgumentException {
        requireRow(row);
        requireRange(length, 2, LAST);
        long tones = rowAt(row);
        int itself = codeOf(PRIME, entryAt(tones, 0));
        int best = NONE;
        int most = -1;
        for (int code = 0; code < FORMS; code++) {
            int kept = countKept(tones, formWith(tones, code), length);
            if (code != itself && kept > most) {
                most = kept;
                best = code;
            }
        }
        return best;
    }

    public int cuts(int code, int other) throws IllegalArgumentException {
        requireRange(code, 0, FORMS - 1);
        requireRange(other, 0, FORMS - 1);
        long form0 = formWith(row0, code);
        long form1 = formWith(row1, other);
        int found = 0;
        for (int cut = 0; cut <= TONES; cut++) {
            if ((setOf(form0, 0, cut) | setOf(form1, 0, TONES - cut)) == ALL_TONES) {
                found |= 1 << cut;
            }
        }
        return found;
    }

    // ---- a phrase: some tones, all different

    public int write(int tone) throws IllegalArgumentException, IllegalStateException {
        requireRange(tone, 0, LAST);
        if (phraseHas(tone)) {
            throw new IllegalStateException("the phrase has this tone");
        }
        phrase = withEntry(phrase, phraseLength, tone);
        phraseLength++;
        return phraseLength;
    }

    public int erase() {
        int length = phraseLength;
        phrase = 0;
        phraseLength = 0;
        return length;
    }

    public long formsWithPhrase(int row) throws IndexOutOfBoundsException {
        requireRow(row);
        if (phraseLength == 0) {
            return ALL_FORMS;
        }
        long tones = rowAt(row);
        long forms = 0;
        for (int code = 0; code < FORMS; code++) {
            if (phraseBegin(formWith(tones, code)) != NONE) {
                forms |= 1L << code;
            }
        }
        return forms;
    }

    public int placeOfPhrase(int row, int code) throws IndexOutOfBoundsException, IllegalArgumentException {
        requireRow(row);
        requireRange(code, 0, FORMS - 1);
        return phraseLength == 0 ? NONE : phraseBegin(formWith(rowAt(row), code));
    }

    public int complete(int row) throws IndexOutOfBoundsException {
        requireRow(row);
        long old = rowAt(row);
        long completed = phrase;
        int length = phraseLength;
        for (int place = 0; place < TONES; place++) {
            int tone = entryAt(old, place);
            if (!phraseHas(tone)) {
                completed = withEntry(completed, length, tone);
                length++;
            }
        }
        return replaceRow(row, completed);
    }

    // ---- what arguments must be

    private static void requireRow(int row) {
        if (row != 0 && row != 1) {
            throw new IndexOutOfBoundsException("there is no such row");
        }
    }

    private static void requirePlace(int place, int last) {
        if (place < 0 || place > last) {
            throw new IndexOutOfBoundsException("there is no such place");
        }
    }

    private static void requireRange(int argument, int least, int most) {
        if (argument < least || argument > most) {
            throw new IllegalArgumentException("an argument is out of its range");
        }
    }

    private static void requireForm(int kind, int index) {
        requireRange(kind, 0, KINDS - 1);
        requireRange(index, 0, LAST);
    }

    private static void requireFactor(int factor) {
        if (factor != 1 && factor != 5 && factor != 7 && factor != 11) {
            throw new IllegalArgumentException("the factor is not 1, 5, 7 or 11");
        }
    }

    private static void requireSize(int size) {
        if (size != 1 && size != 2 && size != 3 && size != 4 && size != 6 && size != 12) {
            throw new IllegalArgumentException("the size is not 1, 2, 3, 4, 6 or 12");
        }
    }

    // ---- the two rows and the phrase

    private long rowAt(int row) {
        return row == 0 ? row0 : row1;
    }

    private void setRow(int row, long tones) {
        if (row == 0) {
            row0 = tones;
        } else {
            row1 = tones;
        }
    }

    private int replaceRow(int row, long tones) {
        setRow(row, tones);
        return entryAt(tones, 0);
    }

    private boolean phraseHas(int tone) {
        return ((setOf(phrase, 0, phraseLength) >> tone) & 1) != 0;
    }

    /** Where the phrase, which must not be empty, begins in a form; or NONE. */
    private int phraseBegin(long form) {
        int begin = placeIn(form, entryAt(phrase, 0));
        if (begin + phraseLength > TONES) {
            return NONE;
        }
        for (int i = 1; i < phraseLength; i++) {
            if (entryAt(form, begin + i) != entryAt(phrase, i)) {
                return NONE;
            }
        }
        return begin;
    }

    // ---- runs of tones, and sets

    private static int entryAt(long tones, int place) {
        return (int) ((tones >>> (BITS_A_PLACE * place)) & PLACE_0);
    }

    private static long withEntry(long tones, int place, int tone) {
        int shift = BITS_A_PLACE * place;
        return (tones & ~(PLACE_0 << shift)) | ((long) tone << shift);
    }

    private static int wrap(int number) {
        return Math.floorMod(number, TONES);
    }

    private static int intervalAt(long tones, int place) {
        return wrap(entryAt(tones, place + 1) - entryAt(tones, place));
    }

    private static int placeIn(long row, int tone) {
        for (int place = 0; place < TONES; place++) {
            if (entryAt(row, place) == tone) {
                return place;
            }
        }
        return NONE;
    }

    private static int codeOf(int kind, int index) {
        return TONES * kind + index;
    }

    private static long formWith(long row, int code) {
        int kind = code / TONES;
        int index = code % TONES;
        boolean inverts = kind == INVERSION || kind == RETROGRADE_INVERSION;
        boolean runsBackwards = kind == RETROGRADE || kind == RETROGRADE_INVERSION;
        int first = entryAt(row, 0);
        long form = 0;
        for (int place = 0; place < TONES; place++) {
            int above = entryAt(row, place) - first;
            int tone = wrap(inverts ? index - above : index + above);
            form = withEntry(form, runsBackwards ? LAST - place : place, tone);
        }
        return form;
    }

    private static int setOf(long tones, int place, int length) {
        int set = 0;
        for (int i = 0; i < length; i++) {
            set |= 1 << entryAt(tones, place + i);
        }
        return set;
    }

    /** The set with a number from 0 to 11 added to each tone. */
    private static int transposed(int set, int by) {
        return ((set << by) | (set >>> (TONES - by))) & ALL_TONES;
    }

    private static int inverted(int set) {
        int inverse = 0;
        for (int tone = 0; tone < TONES; tone++) {
            inverse |= ((set >> tone) & 1) << wrap(-tone);
        }
        return inverse;
    }

    private static int leastLike(int set) {
        int inverse = inverted(set);
        int least = set;
        for (int by = 0; by < TONES; by++) {
            least = Math.min(least, Math.min(transposed(set, by), transposed(inverse, by)));
        }
        return least;
    }

    /** For each place of a row, the place at which a form has its tone. */
    private static long placesOf(long row, long form) {
        long places = 0;
        for (int place = 0; place < TONES; place++) {
            places = withEntry(places, place, placeIn(form, entryAt(row, place)));
        }
        return places;
    }

    private static int countKept(long row, long form, int length) {
        long places = placesOf(row, form);
        int kept = 0;
        for (int place = 0; place + length <= TONES; place++) {
            if (areNeighbours(places, place, length)) {
                kept++;
            }
        }
        return kept;
    }

    /** Tells whether different places, some of a run, are neighbours in some order. */
    private static boolean areNeighbours(long places, int from, int length) {
        int lowest = TONES;
        int highest = NONE;
        for (int i = from; i < from + length; i++) {
            lowest = Math.min(lowest, entryAt(places, i));
            highest = Math.max(highest, entryAt(places, i));
        }
        return highest - lowest == length - 1;
    }
}
