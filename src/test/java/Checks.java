/** Counts what the tests find, and tells each answer that is not the one due. */
final class Checks {
    interface Call {
        int answer();
    }

    private static int passed = 0;
    private static int failed = 0;
    private static String group = "";

    private Checks() {
    }

    /** Runs tests whose failures are told with this name; one that throws ends just them. */
    static void group(String name, Runnable tests) {
        group = name + ": ";
        try {
            tests.run();
        } catch (RuntimeException e) {
            holds("ended by " + e, false);
        }
        group = "";
    }

    static void same(String what, long due, long answered) {
        note(what, due == answered, "answered " + answered + ", due is " + due);
    }

    static void holds(String what, boolean held) {
        note(what, held, "does not hold");
    }

    /** The class must be the very one: the machine's own exceptions are classes below it. */
    static void refuses(String what, Class<? extends RuntimeException> due, Call call) {
        String outcome = outcome(call);
        note(what, outcome.equals("throws " + due.getName()),
                outcome + ", due is " + due.getName());
    }

    static void noEntry(String what, Call call) {
        refuses(what, IndexOutOfBoundsException.class, call);
    }

    static void outOfRange(String what, Call call) {
        refuses(what, IllegalArgumentException.class, call);
    }

    static void badState(String what, Call call) {
        refuses(what, IllegalStateException.class, call);
    }

    static String outcome(Call call) {
        try {
            return "answers " + call.answer();
        } catch (RuntimeException e) {
            return "throws " + e.getClass().getName();
        }
    }

    static int passed() {
        return passed;
    }

    static int failed() {
        return failed;
    }

    private static void note(String what, boolean held, String otherwise) {
        if (held) {
            passed++;
        } else {
            failed++;
            System.out.println(group + what + ": " + otherwise);
        }
    }
}
