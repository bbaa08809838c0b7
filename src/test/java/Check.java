/** What the project's tests share: comparing answers, expecting exceptions, ending with the exit code. */
final class Check {
    interface Call {
        long answer();
    }

    private static int checks = 0;
    private static int wrong = 0;
    private static int sentences = 0;
    private static String sentence = "";

    private Check() {
    }

    /** The test of one sentence of the document, which is told with every answer that is wrong in it. */
    static void sentence(String quoted, Runnable test) {
        int before = checks;
        sentence = "[" + quoted + "] ";
        test.run();
        if (checks == before) {
            report("nothing was checked");
        }
        sentence = "";
        sentences++;
    }

    static void due(String what, long want, long got) {
        checks++;
        if (got != want) {
            report(what + " answered " + got + ", due is " + want);
        }
    }

    static void due(String what, boolean want, boolean got) {
        due(what, want ? 1L : 0L, got ? 1L : 0L);
    }

    static void due(String what, String want, String got) {
        checks++;
        if (!want.equals(got)) {
            report(what + " answered\n  " + got + "\ndue is\n  " + want);
        }
    }

    static void argument(String what, Call call) {
        exception(what, IllegalArgumentException.class, call);
    }

    static void state(String what, Call call) {
        exception(what, IllegalStateException.class, call);
    }

    /** Exactly this exception, none of its subclasses: the document names them by name. */
    static void exception(String what, Class<? extends RuntimeException> want, Call call) {
        checks++;
        String got;
        try {
            got = "answered " + call.answer();
        } catch (RuntimeException e) {
            if (e.getClass() == want) {
                return;
            }
            got = "threw " + e;
        }
        report(what + " " + got + ", due is " + want.getSimpleName());
    }

    static void end() {
        String told = sentences == 0 ? "" : " of " + sentences + " sentences";
        System.out.println(checks + " checks" + told + ", " + wrong + " wrong");
        if (wrong != 0 || checks == 0) {
            System.exit(1);
        }
    }

    private static void report(String text) {
        wrong++;
        System.out.println(sentence + text);
    }

    /** A sorter with items 1 .. n of length 10 each. */
    static SorterSteps sorter(int trays, int rounds, int items) {
        SorterSteps s = new SorterSteps(trays, rounds);
        for (int k = 0; k < items; k++) {
            s.item(10);
        }
        return s;
    }

    /**
     * A sorter of 6 trays and 2 chutes in which item k + 1 is in state k: 1 NEW, 2 ON A TRAY (at position 0, without
     * a code), 3 OUT, 4 MANUAL, 5 in the OVERFLOW, 6 LOST. It is not jammed, and no chute is full.
     */
    static SorterSteps inEachState() {
        SorterSteps s = sorter(6, 0, 6);
        s.chute(2, true);
        s.induct(3, 1, 1);
        s.induct(5, 0, 2);
        s.step(4);
        s.induct(4, 1, 0);
        s.induct(6, 0, 1);
        s.jam(0, 0);
        s.retrack();
        s.step(5);
        s.induct(2, 0, 0);
        s.chute(2, false);
        return s;
    }

    /** A sorter with an item on each tray, item p + 1 at position p, without a code and with nine retries each. */
    static SorterSteps filled(int trays) {
        SorterSteps s = sorter(trays, 0, trays);
        for (int p = trays - 1; p >= 0; p--) {
            s.step(p == trays - 1 ? 0 : 1);
            s.induct(p + 1, 0, 0);
            s.retry(p + 1, 9, 0);
        }
        return s;
    }

    static long retry(SorterSteps s, int item, int retries, int code) {
        s.retry(item, retries, code);
        return 0;
    }

    static long truth(boolean answer) {
        return answer ? 1 : 0;
    }
}
