import java.util.ArrayList;
import java.util.Arrays;
import java.util.Collections;
import java.util.HashSet;
import java.util.List;
import java.util.Set;
import java.util.TreeSet;

/**
 * The document's words, one after the other, over lists and sets: slow, and written without a look
 * at the class under test. It takes good arguments alone.
 */
final class Model {
    private final List<List<Integer>> rows = new ArrayList<>();
    private final List<Integer> phrase = new ArrayList<>();

    Model() {
        for (int row = 0; row < 2; row++) {
            rows.add(new ArrayList<>(Arrays.asList(0, 1, 2, 3, 4, 5, 6, 7, 8, 9, 10, 11)));
        }
    }

    /** A model of an object with these rows and this phrase. */
    static Model of(int[] first, int[] second, int[] phrase) {
        Model model = new Model();
        model.rows.set(0, Rows.list(first));
        model.rows.set(1, Rows.list(second));
        model.phrase.addAll(Rows.list(phrase));
        return model;
    }

    /** What Rows.read tells of an object that is as this model is. */
    String read() {
        return rows.get(0) + " " + rows.get(1) + " phrase " + phrase;
    }

    private static int mod(int number) {
        int rest = number % 12;
        return rest < 0 ? rest + 12 : rest;
    }

    private List<Integer> form(int row, int kind, int index) {
        List<Integer> form = new ArrayList<>();
        int first = tone(row, 0);
        for (int tone : rows.get(row)) {
            boolean plain = kind == ToneRows.PRIME || kind == ToneRows.RETROGRADE;
            form.add(plain ? mod(tone - first + index) : mod(first - tone + index));
        }
        if (kind == ToneRows.RETROGRADE || kind == ToneRows.RETROGRADE_INVERSION) {
            Collections.reverse(form);
        }
        return form;
    }

    private List<Integer> form(int row, int code) {
        return form(row, code / 12, code % 12);
    }

    private static List<Set<Integer>> segments(List<Integer> tones, int length) {
        List<Set<Integer>> segments = new ArrayList<>();
        for (int place = 0; place + length <= 12; place++) {
            segments.add(new TreeSet<>(tones.subList(place, place + length)));
        }
        return segments;
    }

    int put(int row, int place, int tone) {
        List<Integer> tones = rows.get(row);
        int old = tones.get(place);
        Collections.swap(tones, place, tones.indexOf(tone));
        return old;
    }

    int take(int row, int kind, int index, int target) {
        rows.set(target, form(row, kind, index));
        return tone(target, 0);
    }

    int multiply(int row, int factor) {
        rows.get(row).replaceAll(tone -> mod(tone * factor));
        return tone(row, 0);
    }

    int rotate(int row, int by) {
        Collections.rotate(rows.get(row), -by);
        return tone(row, 0);
    }

    int tone(int row, int place) {
        return rows.get(row).get(place);
    }

    int interval(int row, int place) {
        return mod(tone(row, place + 1) - tone(row, place));
    }

    boolean hasAllIntervals(int row) {
        Set<Integer> intervals = new HashSet<>();
        for (int place = 0; place < 11; place++) {
            intervals.add(interval(row, place));
        }
        return intervals.size() == 11;
    }

    int toneOf(int row, int kind, int index, int place) {
        return form(row, kind, index).get(place);
    }

    int matrix(int row, int line, int column) {
        int begin = form(row, ToneRows.INVERSION, tone(row, 0)).get(line);
        return form(row, ToneRows.PRIME, begin).get(column);
    }

    int differentForms(int row) {
        Set<List<Integer>> forms = new HashSet<>();
        for (int code = 0; code < 48; code++) {
            forms.add(form(row, code));
        }
        return forms.size();
    }

    int formOfOther(int row) {
        for (int code = 0; code < 48; code++) {
            if (form(row, code).equals(rows.get(1 - row))) {
                return code;
            }
        }
        return ToneRows.NONE;
    }

    int segment(int row, int place, int length) {
        int set = 0;
        for (int tone : rows.get(row).subList(place, place + length)) {
            set += 1 << tone;
        }
        return set;
    }

    static int classOf(int set) {
        int least = set;
        for (int number = 0; number < 12; number++) {
            int added = 0;
            int subtracted = 0;
            for (int tone = 0; tone < 12; tone++) {
                if ((set & 1 << tone) != 0) {
                    added |= 1 << mod(tone + number);
                    subtracted |= 1 << mod(number - tone);
                }
            }
            least = Math.min(least, Math.min(added, subtracted));
        }
        return least;
    }

    static int pairs(int set, int interval) {
        int pairs = 0;
        for (int low = 0; low < 12; low++) {
            for (int high = low + 1; high < 12; high++) {
                boolean both = (set & 1 << low) != 0 && (set & 1 << high) != 0;
                int apart = high - low;
                if (both && (apart <= 6 ? apart : 12 - apart) == interval) {
                    pairs++;
                }
            }
        }
        return pairs;
    }

    long combining(int row) {
        long forms = 0;
        for (int code = 0; code < 48; code++) {
            if (Collections.disjoint(rows.get(row).subList(0, 6), form(row, code).subList(0, 6))) {
                forms += 1L << code;
            }
        }
        return forms;
    }

    boolean isDerived(int row, int size) {
        Set<Integer> classes = new HashSet<>();
        for (int place = 0; place < 12; place += size) {
            classes.add(classOf(segment(row, place, size)));
        }
        return classes.size() == 1;
    }

    int keptSets(int row, int kind, int index, int length) {
        List<Set<Integer>> inForm = segments(form(row, kind, index), length);
        int kept = 0;
        for (Set<Integer> segment : segments(rows.get(row), length)) {
            if (inForm.contains(segment)) {
                kept++;
            }
        }
        return kept;
    }

    int longestKept(int row, int kind, int index) {
        List<Integer> form = form(row, kind, index);
        int longest = 0;
        for (int length = 1; length <= 12; length++) {
            for (int place = 0; place + length <= 12; place++) {
                if (Collections.indexOfSubList(form, rows.get(row).subList(place, place + length)) >= 0) {
                    longest = length;
                }
            }
        }
        return longest;
    }

    int mostKept(int row, int length) {
        int best = ToneRows.NONE;
        int most = -1;
        for (int code = 0; code < 48; code++) {
            int kept = keptSets(row, code / 12, code % 12, length);
            if (code != tone(row, 0) && kept > most) {
                most = kept;
                best = code;
            }
        }
        return best;
    }

    int cuts(int code, int other) {
        int cuts = 0;
        for (int cut = 0; cut <= 12; cut++) {
            Set<Integer> together = new HashSet<>(form(0, code).subList(0, cut));
            together.addAll(form(1, other).subList(0, 12 - cut));
            if (together.size() == 12) {
                cuts += 1 << cut;
            }
        }
        return cuts;
    }

    boolean phraseHas(int tone) {
        return phrase.contains(tone);
    }

    int write(int tone) {
        phrase.add(tone);
        return phrase.size();
    }

    int erase() {
        int size = phrase.size();
        phrase.clear();
        return size;
    }

    long formsWithPhrase(int row) {
        long forms = 0;
        for (int code = 0; code < 48; code++) {
            if (Collections.indexOfSubList(form(row, code), phrase) >= 0) {
                forms += 1L << code;
            }
        }
        return forms;
    }

    int placeOfPhrase(int row, int code) {
        return phrase.isEmpty() ? ToneRows.NONE : Collections.indexOfSubList(form(row, code), phrase);
    }

    int complete(int row) {
        List<Integer> completed = new ArrayList<>(phrase);
        for (int tone : rows.get(row)) {
            if (!completed.contains(tone)) {
                completed.add(tone);
            }
        }
        rows.set(row, completed);
        return completed.get(0);
    }
}
