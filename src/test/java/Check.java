/** What the project's tests share: comparing answers, expecting exceptions, ending with the exit code. */
final class Check {
    interface Call {
        long answer();
    }

    private static int checks = 0;
    private static int wrong = 0;

    private Check() {
    }

    static void due(String what, long want, long got) {
        checks++;
        if (got != want) {
            report(what + " answered " + got + ", due is " + want);
        }
    }

    static void due(String what, boolean want, boolean got) {
        due(what, want ? 1L : 0L, got ? 1L : 0L);
    }

    static void due(String what, String want, String got) {
        checks++;
        if (!want.equals(got)) {
            report(what + " answered\n  " + got + "\ndue is\n  " + want);
        }
    }

    static void argument(String what, Call call) {
        exception(what, IllegalArgumentException.class, call);
    }

    static void state(String what, Call call) {
        exception(what, IllegalStateException.class, call);
    }

    /** Exactly this exception, none of its subclasses: the document names them by name. */
    static void exception(String what, Class<? extends RuntimeException> want, Call call) {
        checks++;
        String got;
        try {
            got = "answered " + call.answer();
        } catch (RuntimeException e) {
            if (e.getClass() == want) {
                return;
            }
            got = "threw " + e;
        }
        report(what + " " + got + ", due is " + want.getSimpleName());
    }

    static void end() {
        System.out.println(checks + " checks, " + wrong + " wrong");
        if (wrong != 0 || checks == 0) {
            System.exit(1);
        }
    }

    private static void report(String text) {
        wrong++;
        System.out.println(text);
    }

    /** A sorter with items 1 .. n of length 10 each. */
    static SorterSteps sorter(int trays, int rounds, int items) {
        SorterSteps s = new SorterSteps(trays, rounds);
        for (int k = 0; k < items; k++) {
            s.item(10);
        }
        return s;
    }

    static long retry(SorterSteps s, int item, int retries, int code) {
        s.retry(item, retries, code);
        return 0;
    }

    static long truth(boolean answer) {
        return answer ? 1 : 0;
    }
}
