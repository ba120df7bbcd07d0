/** Counts and prints the answers that are not as due. */
final class Check {
    interface Call {
        long answer();
    }

    interface Test {
        void run();
    }

    private static int wrong = 0;
    private static int made = 0;
    private static String heading = "";

    private Check() {
    }

    /**
     * The test of one sentence of the document, which is told with every wrong answer. A test that
     * breaks off is wrong too, and leaves the others to run; so is one that asks nothing.
     */
    static void sentence(String words, Test test) {
        int before = made;
        heading = "\"" + words + "\": ";
        try {
            test.run();
        } catch (RuntimeException e) {
            due(e + " broke off the test, wrong answers", 0, 1);
        }
        if (made == before) {
            due("answers asked for", 1, 0);
        }
        heading = "";
    }

    static void due(String what, long want, long got) {
        dueText(what, Long.toString(want), Long.toString(got));
    }

    static void dueText(String what, String want, String got) {
        made++;
        if (!want.equals(got)) {
            wrong++;
            System.out.println(heading + what + " answered " + got + ", due is " + want);
        }
    }

    static void dueIndex(String what, Call call) {
        dueText(what, "throws.IndexOutOfBoundsException", told(call));
    }

    static void dueArgument(String what, Call call) {
        dueText(what, "throws.IllegalArgumentException", told(call));
    }

    static void dueState(String what, Call call) {
        dueText(what, "throws.IllegalStateException", told(call));
    }

    static void dueNoRoom(String what, Call call) {
        dueText(what, "throws.UnsupportedOperationException", told(call));
    }

    /** By the exact class: what the machine throws at a wrong index is a subclass and must not pass. */
    static String told(Call call) {
        try {
            return Long.toString(call.answer());
        } catch (RuntimeException e) {
            return "throws." + e.getClass().getSimpleName();
        }
    }

    static void end() {
        System.out.println(made + " answers, " + wrong + " not as due");
        if (wrong != 0 || made == 0) {
            System.exit(1);
        }
    }
}
