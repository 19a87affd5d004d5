/** Counts the checks of one test program, prints those that fail, and ends the program. */
final class Checks {
    private int passed;
    private int failed;

    void same(String what, long got, long due) {
        if (got == due) {
            passed++;
        } else {
            fail(what + " answered " + got + ", due is " + due);
        }
    }

    void same(String what, String got, String due) {
        if (got.equals(due)) {
            passed++;
        } else {
            fail(what + " is\n  " + got + "\ndue is\n  " + due);
        }
    }

    void isTrue(String what, boolean got) {
        if (got) {
            passed++;
        } else {
            fail(what);
        }
    }

    /** The call must throw just this exception, and change nothing that the object tells. */
    void refuses(String what, KanbanLoop line, Class<? extends RuntimeException> due, Runnable call) {
        String before = Telling.all(line);
        Class<?> got = thrownBy(call);
        isTrue(what + " throws " + got + ", due is " + due, got == due);
        same("the state after " + what, Telling.all(line), before);
    }

    static Class<?> thrownBy(Runnable call) {
        try {
            call.run();
            return null;
        } catch (RuntimeException e) {
            return e.getClass();
        }
    }

    void fail(String what) {
        failed++;
        System.out.println(what);
    }

    int failures() {
        return failed;
    }

    void close() {
        System.out.println(passed + " checks hold, " + failed + " do not");
        System.exit(failed == 0 && passed > 0 ? 0 : 1);
    }
}
