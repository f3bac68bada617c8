import java.lang.reflect.Constructor;
import java.lang.reflect.Field;
import java.lang.reflect.Member;
import java.lang.reflect.Method;
import java.lang.reflect.Modifier;
import java.util.Arrays;
import java.util.Set;
import java.util.TreeSet;

/** The class shows the document's face and nothing else. */
final class FaceTest {
    private static final String OUT = "IndexOutOfBoundsException";
    private static final String ARGUMENT = "IllegalArgumentException";
    private static final String STATE = "IllegalStateException";

    private FaceTest() {
    }

    static void run() {
        Check.promise("the face");
        Check.yes("the class is public and final", Modifier.isPublic(ToneRows.class.getModifiers())
                && Modifier.isFinal(ToneRows.class.getModifiers()));
        Check.due("the members", shown(), new TreeSet<>(Arrays.asList(
                "int NONE", "int PRIME", "int INVERSION", "int RETROGRADE", "int RETROGRADE_INVERSION",
                "ToneRows()",
                "int put(3) " + OUT + " " + ARGUMENT,
                "int take(4) " + OUT + " " + ARGUMENT,
                "int multiply(2) " + OUT + " " + ARGUMENT,
                "int rotate(2) " + OUT + " " + ARGUMENT,
                "int tone(2) " + OUT,
                "int interval(2) " + OUT,
                "boolean hasAllIntervals(1) " + OUT,
                "int toneOf(4) " + OUT + " " + ARGUMENT,
                "int matrix(3) " + OUT,
                "int differentForms(1) " + OUT,
                "int formOfOther(1) " + OUT,
                "int segment(3) " + OUT + " " + ARGUMENT,
                "int classOf(1) " + ARGUMENT,
                "int pairs(2) " + ARGUMENT,
                "long combining(1) " + OUT,
                "boolean isDerived(2) " + OUT + " " + ARGUMENT,
                "int keptSets(4) " + OUT + " " + ARGUMENT,
                "int longestKept(3) " + OUT + " " + ARGUMENT,
                "int mostKept(2) " + OUT + " " + ARGUMENT,
                "int cuts(2) " + ARGUMENT,
                "int write(1) " + ARGUMENT + " " + STATE,
                "int erase(0)",
                "long formsWithPhrase(1) " + OUT,
                "int placeOfPhrase(2) " + OUT + " " + ARGUMENT,
                "int complete(1) " + OUT)));
        Check.due("NONE", ToneRows.NONE, -1);
        Check.due("PRIME", ToneRows.PRIME, 0);
        Check.due("INVERSION", ToneRows.INVERSION, 1);
        Check.due("RETROGRADE", ToneRows.RETROGRADE, 2);
        Check.due("RETROGRADE_INVERSION", ToneRows.RETROGRADE_INVERSION, 3);
    }

    private static Set<String> shown() {
        Set<String> shown = new TreeSet<>();
        for (Field field : ToneRows.class.getDeclaredFields()) {
            add(shown, field, field.getType() + " " + field.getName());
        }
        for (Constructor<?> constructor : ToneRows.class.getDeclaredConstructors()) {
            add(shown, constructor, "ToneRows()" + thrown(constructor.getExceptionTypes()));
        }
        for (Method method : ToneRows.class.getDeclaredMethods()) {
            add(shown, method, method.getReturnType() + " " + method.getName() + "("
                    + method.getParameterCount() + ")" + thrown(method.getExceptionTypes()));
        }
        return shown;
    }

    private static void add(Set<String> shown, Member member, String told) {
        if (!Modifier.isPrivate(member.getModifiers())) {
            shown.add(Modifier.isPublic(member.getModifiers()) ? told : "not public: " + told);
        }
    }

    private static String thrown(Class<?>[] types) {
        StringBuilder names = new StringBuilder();
        for (Class<?> type : types) {
            names.append(' ').append(type.getSimpleName());
        }
        return names.toString();
    }
}
