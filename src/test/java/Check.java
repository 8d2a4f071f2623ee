import java.util.Objects;

/** Counts the answers that are as due and prints those that are not. */
final class Check {
    private static int passed = 0;
    private static int failed = 0;

    private Check() {
    }

    interface Call {
        Object answer();
    }

    static void due(String what, Object got, Object want) {
        if (Objects.equals(got, want)) {
            passed++;
        } else {
            failed++;
            System.out.println(what + " answered " + got + ", due is " + want);
        }
    }

    /** The call is to throw just this class of exception, and to change nothing of the mill. */
    static void refused(Kerfhall mill, String what, Class<? extends RuntimeException> want, Call call) {
        String before = Inside.of(mill);
        due(what + " throws", outcome(call), "throws " + want.getSimpleName());
        due(what + " changes nothing", Inside.of(mill).equals(before), true);
    }

    /** The call is to throw nothing. */
    static void allowed(String what, Call call) {
        Object outcome = outcome(call);
        due(what + " is allowed", outcome instanceof String ? outcome : "yes", "yes");
    }

    /** What a call answers, or "throws" and the name of what it throws. */
    static Object outcome(Call call) {
        try {
            return call.answer();
        } catch (RuntimeException thrown) {
            return told(thrown);
        }
    }

    /** Names what was thrown; the mills are to throw themselves, not to let the library do it. */
    static String told(Throwable thrown) {
        StackTraceElement[] trace = thrown.getStackTrace();
        String place = trace.length == 0 ? "nowhere" : trace[0].getClassName();
        boolean isOwn = place.startsWith("Kerfhall") || place.startsWith("PlainMill");
        return "throws " + thrown.getClass().getSimpleName() + (isOwn ? "" : " in " + place);
    }

    static void end(String name) {
        System.out.println(name + ": " + passed + " as due, " + failed + " not");
        if (failed > 0) {
            System.exit(1);
        }
    }
}
