import java.util.Objects;

/** Counts what is due and what is not. */
final class Check {
    interface Call {
        Object answer();
    }

    private static int passed;
    private static int failed;
    private static String what = "";

    private Check() {
    }

    /** Says what the next ones hold the program against. */
    static void begin(String heading) {
        what = heading;
    }

    static int made() {
        return passed + failed;
    }

    static void due(String name, Object want, Object got) {
        if (Objects.equals(String.valueOf(want), String.valueOf(got))) {
            passed++;
        } else {
            failed++;
            System.out.println((what.isEmpty() ? "" : what + "\n    ") + name + " answered " + got + ", due is " + want);
        }
    }

    static void fails(String name, Class<?> want, Call call) {
        Object got;
        try {
            got = call.answer();
        } catch (RuntimeException e) {
            got = isThrownByProgram(e) ? e.getClass() : e + " of the machine or its library";
        }
        due(name, want, got);
    }

    /** An exception of a list's own comes from deeper than the program. */
    private static boolean isThrownByProgram(RuntimeException e) {
        return e.getStackTrace().length > 0 && e.getStackTrace()[0].getClassName().startsWith("Clausehall");
    }

    static void end() {
        System.out.println(passed + " passed, " + failed + " failed");
        if (failed != 0 || passed == 0) {
            System.exit(1);
        }
    }
}
