import java.util.Objects;

/** Counts what is as due and what is not, and tells the latter. */
final class Check {
    /** A call of the class under test; a boolean answer counts 1 or 0. */
    interface Call {
        long on(ToneRows rows);
    }

    static int passed = 0;
    static int failed = 0;
    private static String promise = "";

    private Check() {
    }

    static void promise(String name) {
        promise = name;
    }

    static void due(String what, Object got, Object want) {
        if (Objects.equals(got, want)) {
            passed++;
            return;
        }
        failed++;
        System.out.println(promise + ": " + what + " was " + got + ", due is " + want);
    }

    static void due(String what, long got, long want) {
        due(what, (Object) got, (Object) want);
    }

    static void yes(String what, boolean got) {
        due(what, (Object) got, true);
    }

    static void no(String what, boolean got) {
        due(what, (Object) got, false);
    }

    static void outOfBounds(String what, Call call) {
        refusesAnew(what, IndexOutOfBoundsException.class, call);
        refuses(what, IndexOutOfBoundsException.class, call);
    }

    static void illegalArgument(String what, Call call) {
        refusesAnew(what, IllegalArgumentException.class, call);
        refuses(what, IllegalArgumentException.class, call);
    }

    static void illegalState(String what, Call call) {
        refuses(what, IllegalStateException.class, call);
    }

    private static void refusesAnew(String what, Class<?> wanted, Call call) {
        refusal(what + " on a new object", wanted, call, new ToneRows(), new ToneRows());
    }

    /** On objects with something in the phrase: a new one has no tone to write twice. */
    private static void refuses(String what, Class<?> wanted, Call call) {
        refusal(what + " on used rows", wanted, call, Rows.used(), Rows.used());
        refusal(what + " with a full phrase", wanted, call, Rows.withFullPhrase(), Rows.withFullPhrase());
    }

    /** The call throws just this exception, and leaves the object as one that it was not called on. */
    static void refusal(String what, Class<?> wanted, Call call, ToneRows rows, ToneRows untouched) {
        due(what, thrownBy(call, rows), wanted);
        due("what " + what + " leaves", Rows.readAndAsk(rows), Rows.readAndAsk(untouched));
    }

    /** What a call throws, or null. */
    static Class<?> thrownBy(Call call, ToneRows rows) {
        try {
            call.on(rows);
            return null;
        } catch (RuntimeException e) {
            return e.getClass();
        }
    }

    /** A call that changes nothing, whatever it answers. */
    static void onlyComputes(String what, Call call) {
        ToneRows used = Rows.used();
        call.on(used);
        due("what " + what + " leaves", Rows.readAndAsk(used), Rows.readAndAsk(Rows.used()));
    }
}
