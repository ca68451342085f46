import java.util.List;

/** Counts what is not as due and ends a test with exit code 1 if there was anything. */
final class Check {
    private static int wrong = 0;
    private static int made = 0;

    private Check() {
    }

    static void equal(String call, long due, long got) {
        made++;
        if (due != got) {
            report(call + " answered " + got + ", due is " + due);
        }
    }

    static void isTrue(String what, boolean holds) {
        made++;
        if (!holds) {
            report(what + " does not hold");
        }
    }

    static void index(String call, Runnable body) {
        refuses(call, IndexOutOfBoundsException.class, body);
    }

    static void turn(String call, Runnable body) {
        refuses(call, IllegalStateException.class, body);
    }

    static void range(String call, Runnable body) {
        refuses(call, IllegalArgumentException.class, body);
    }

    static void meaning(String call, Runnable body) {
        refuses(call, UnsupportedOperationException.class, body);
    }

    static void same(String what, List<String> due, List<String> got) {
        made++;
        for (int line = 0; line < due.size() && line < got.size(); line++) {
            if (!due.get(line).equals(got.get(line))) {
                report(what + ": " + got.get(line) + ", due is " + due.get(line));
                return;
            }
        }
        if (due.size() != got.size()) {
            report(what + ": " + got.size() + " lines, due are " + due.size());
        }
    }

    static void refuses(String call, Class<?> due, Runnable body) {
        made++;
        Class<?> got = null;
        try {
            body.run();
        } catch (RuntimeException e) {
            got = e.getClass();
        }
        if (got != due) {
            report(call + " threw " + got + ", due is " + due);
        }
    }

    private static void report(String text) {
        wrong++;
        if (wrong <= 20) {
            System.out.println(text);
        }
    }

    static void end() {
        if (made == 0) {
            report("nothing was checked");
        }
        if (wrong != 0) {
            System.out.println(wrong + " of " + made + " checks are not as due");
            System.exit(1);
        }
    }
}
