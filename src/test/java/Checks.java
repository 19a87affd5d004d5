/** Counts the checks of one test program, prints those that fail, and ends the program. */
final class Checks {
    private int passed;
    private int failed;
    private String about = "";

    void same(String what, long got, long due) {
        if (got == due) {
            passed++;
        } else {
            fail(what + " answered " + got + ", due is " + due);
        }
    }

    void same(String what, String got, String due) {
        if (got.equals(due)) {
            passed++;
        } else {
            int at = firstDifference(got, due);
            fail(what + " is .. " + around(got, at) + " .., due is .. " + around(due, at) + " ..");
        }
    }

    private static int firstDifference(String got, String due) {
        int at = 0;
        while (at < got.length() && at < due.length() && got.charAt(at) == due.charAt(at)) {
            at++;
        }
        return at;
    }

    /** The long tellings differ late, so only the words round the first difference are of use. */
    private static String around(String text, int at) {
        return text.substring(Math.max(0, at - 40), Math.min(text.length(), at + 20));
    }

    void isTrue(String what, boolean got) {
        if (got) {
            passed++;
        } else {
            fail(what);
        }
    }

    /** The call must throw just this exception, and change nothing that the object tells. */
    void refuses(String what, KanbanLoop line, Class<? extends RuntimeException> due, Runnable call) {
        String before = Telling.all(line);
        Class<?> got = thrownBy(call);
        isTrue(what + " throws " + got + ", due is " + due, got == due);
        same("the state after " + what, Telling.all(line), before);
    }

    static Class<?> thrownBy(Runnable call) {
        try {
            call.run();
            return null;
        } catch (RuntimeException e) {
            return e.getClass();
        }
    }

    /** What the checks that follow are about: it is printed ahead of each that fails. */
    void about(String text) {
        about = text.isEmpty() ? "" : text + ": ";
    }

    void fail(String what) {
        failed++;
        System.out.println(about + what);
    }

    int failures() {
        return failed;
    }

    int made() {
        return passed + failed;
    }

    void close() {
        System.out.println(passed + " checks hold, " + failed + " do not");
        System.exit(failed == 0 && passed > 0 ? 0 : 1);
    }
}
