import java.util.Objects;

/** Counts what is due and what is not. */
final class Check {
    interface Call {
        Object answer();
    }

    private static int passed;
    private static int failed;

    private Check() {
    }

    static void due(String name, Object want, Object got) {
        if (Objects.equals(String.valueOf(want), String.valueOf(got))) {
            passed++;
        } else {
            failed++;
            System.out.println(name + " answered " + got + ", due is " + want);
        }
    }

    static void fails(String name, Class<?> want, Call call) {
        Object got;
        try {
            got = call.answer();
        } catch (RuntimeException e) {
            got = e.getClass();
        }
        due(name, want, got);
    }

    static void end() {
        System.out.println(passed + " passed, " + failed + " failed");
        if (failed != 0 || passed == 0) {
            System.exit(1);
        }
    }
}
