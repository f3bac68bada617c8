import java.util.Objects;

/** Counts what is as due and what is not, and tells the latter. */
final class Check {
    /** A call of the class under test; a boolean answer counts 1 or 0. */
    interface Call {
        long on(ToneRows rows);
    }

    static int passed = 0;
    static int failed = 0;
    private static String promise = "";

    private Check() {
    }

    static void promise(String name) {
        promise = name;
    }

    static void due(String what, Object got, Object want) {
        if (Objects.equals(got, want)) {
            passed++;
            return;
        }
        failed++;
        System.out.println(promise + ": " + what + " was " + got + ", due is " + want);
    }

    static void due(String what, long got, long want) {
        due(what, (Object) got, (Object) want);
    }

    static void yes(String what, boolean got) {
        due(what, (Object) got, true);
    }

    static void no(String what, boolean got) {
        due(what, (Object) got, false);
    }

    static void outOfBounds(String what, Call call) {
        refuses(what, IndexOutOfBoundsException.class, call);
    }

    static void illegalArgument(String what, Call call) {
        refuses(what, IllegalArgumentException.class, call);
    }

    static void illegalState(String what, Call call) {
        refuses(what, IllegalStateException.class, call);
    }

    /** On objects in two states: the call throws just this exception, and changes nothing. */
    private static void refuses(String what, Class<? extends RuntimeException> wanted, Call call) {
        ToneRows used = Rows.used();
        due(what + " on used rows", thrownBy(call, used), wanted);
        due("what " + what + " leaves of used rows", Rows.read(used), Rows.read(Rows.used()));
        ToneRows full = Rows.withFullPhrase();
        due(what + " with a full phrase", thrownBy(call, full), wanted);
        due("what " + what + " leaves with a full phrase", Rows.read(full), Rows.read(Rows.withFullPhrase()));
    }

    /** What a call throws, or null. */
    static Class<?> thrownBy(Call call, ToneRows rows) {
        try {
            call.on(rows);
            return null;
        } catch (RuntimeException e) {
            return e.getClass();
        }
    }

    /** A call that changes nothing, whatever it answers. */
    static void onlyComputes(String what, Call call) {
        ToneRows used = Rows.used();
        call.on(used);
        due("what " + what + " leaves", Rows.read(used), Rows.read(Rows.used()));
    }
}
