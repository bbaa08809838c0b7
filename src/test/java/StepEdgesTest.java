/** Promises 5 to 8 (retry, step, out, chute): a test for each sentence that names a boundary case. */
public final class StepEdgesTest {
    public static void main(String[] args) {
        Check.sentence("5: So many retries (0 .. 9)", StepEdgesTest::retriesToldAndRefused);
        Check.sentence("5: the code that it has then", StepEdgesTest::retryCodes);
        Check.sentence("5: IllegalArgumentException", StepEdgesTest::retryNoItem);
        Check.sentence("5: IllegalStateException: it is not on a tray", StepEdgesTest::retryNotOnATray);
        Check.sentence("5: or has a code", StepEdgesTest::retryWithACode);
        Check.sentence("6: So many steps (0 .. 100)", StepEdgesTest::stepsMade);
        Check.sentence("6: one behind the other", StepEdgesTest::stepsOneByOne);
        Check.sentence("6: how many items left their trays", StepEdgesTest::howManyLeft);
        Check.sentence("6: IllegalArgumentException", StepEdgesTest::stepsRefused);
        Check.sentence("6: IllegalStateException: it is jammed", StepEdgesTest::stepJammed);
        Check.sentence("7: (in the order in which they did, all from the beginning on; lost and manual ones too)",
            StepEdgesTest::outInOrder);
        Check.sentence("7: all from the beginning on (sixty)", StepEdgesTest::allSixtyLeft);
        Check.sentence("7: 1 its chute (0 manual, -1 overflow, -2 lost)", StepEdgesTest::outChutes);
        Check.sentence("7: 2 the steps that were made then (the one in which it left counted)",
            StepEdgesTest::outSteps);
        Check.sentence("7: 3 its rounds", StepEdgesTest::outRounds);
        Check.sentence("7: IllegalArgumentException: there are not so many", StepEdgesTest::outNotSoMany);
        Check.sentence("7: or no such what", StepEdgesTest::outNoWhat);
        Check.sentence("8: A chute is full, or not: whether it was.", StepEdgesTest::chuteWas);
        Check.sentence("8: IllegalArgumentException: no such chute", StepEdgesTest::chuteNone);
        Check.end();
    }

    private static void retriesToldAndRefused() {
        SorterSteps s = Check.sorter(6, 0, 1);
        s.induct(1, 0, 0);
        for (int retries = 0; retries <= 9; retries++) {
            s.retry(1, retries, 1);
            Check.due("told", retries, s.told(1, 6));
        }
        for (int retries : new int[] {-1, 10, Integer.MIN_VALUE, Integer.MAX_VALUE}) {
            Check.argument("retries " + retries, () -> Check.retry(s, 1, retries, 1));
            Check.due("what was told stays", 9, s.told(1, 6));
        }
        SorterSteps t = Check.inEachState();
        Check.argument("before the state, too few", () -> Check.retry(t, 1, -1, 1));
        Check.argument("before the state, too many", () -> Check.retry(t, 1, 10, 1));
    }

    private static void retryCodes() {
        int[][] traysAndChutes = {{2, 0}, {3, 1}, {6, 2}, {12, 5}, {13, 6}, {40, 6}};
        for (int[] pair : traysAndChutes) {
            for (int code = 0; code <= pair[1]; code++) {
                SorterSteps s = Check.sorter(pair[0], 0, 1);
                s.induct(1, 0, 0);
                s.retry(1, 1, code);
                Check.due("it stays on its tray", 0, s.step(pair[0]));
                Check.due("code " + code, code, s.told(1, 1));
            }
            SorterSteps s = Check.sorter(pair[0], 0, 2);
            s.induct(1, 0, 0);
            s.retry(1, 1, pair[1]);
            for (int code : new int[] {-1, pair[1] + 1, 7, Integer.MIN_VALUE, Integer.MAX_VALUE}) {
                Check.argument("code " + code + " of " + pair[0] + " trays", () -> Check.retry(s, 1, 2, code));
                Check.argument("with no retries", () -> Check.retry(s, 1, 0, code));
                Check.argument("before the state", () -> Check.retry(s, 2, 1, code));
            }
            s.step(pair[0]);
            Check.due("what was told stays", pair[1], s.told(1, 1));
        }
    }

    private static void retryNoItem() {
        SorterSteps none = new SorterSteps(6, 0);
        Check.argument("item 1 of none", () -> Check.retry(none, 1, 1, 1));
        SorterSteps s = Check.sorter(6, 0, 2);
        for (int item : new int[] {0, -1, 3, 60, 61, Integer.MIN_VALUE, Integer.MAX_VALUE}) {
            Check.argument("item " + item, () -> Check.retry(s, item, 1, 1));
        }
    }

    private static void retryNotOnATray() {
        SorterSteps s = Check.inEachState();
        for (int item : new int[] {1, 3, 4, 5, 6}) {
            Check.state("in state " + (item - 1), () -> Check.retry(s, item, 1, 1));
            Check.state("none, in state " + (item - 1), () -> Check.retry(s, item, 0, 0));
            Check.due("nothing was told", 0, s.told(item, 6));
        }
        s.retry(2, 1, 1);
        Check.due("on a tray", 1, s.told(2, 6));
    }

    private static void retryWithACode() {
        SorterSteps s = Check.sorter(6, 0, 2);
        s.induct(1, 0, 2);
        s.induct(2, 1, 0);
        s.retry(2, 1, 1);
        Check.state("from the induct", () -> Check.retry(s, 1, 1, 1));
        Check.state("with none", () -> Check.retry(s, 1, 0, 0));
        s.retry(2, 1, 2);
        Check.due("told anew, not read yet", 1, s.told(2, 6));
        Check.due("item 1 leaves", 1, s.step(5));
        Check.state("from its last retry", () -> Check.retry(s, 2, 1, 1));
        Check.due("its code stays", 2, s.told(2, 1));
    }

    private static void stepsMade() {
        for (int n : new int[] {0, 1, 2, 99, 100}) {
            SorterSteps s = Check.sorter(40, 0, 1);
            s.induct(1, 0, 0);
            s.retry(1, 9, 0);
            Check.due("step(" + n + ")", 0, s.step(n));
            Check.due("steps", n, s.count(3));
            Check.due("position", n % 40, s.told(1, 5));
        }
    }

    /** Many steps at once do what single ones do, also to an item that takes rounds on the way. */
    private static void stepsOneByOne() {
        for (int n = 0; n <= 40; n++) {
            SorterSteps once = onTheWay();
            SorterSteps single = onTheWay();
            int left = 0;
            for (int k = 0; k < n; k++) {
                left += single.step(1);
            }
            Check.due("left in " + n, left, once.step(n));
            for (int item = 1; item <= 4; item++) {
                for (int what = 0; what <= 6; what++) {
                    Check.due("told(" + item + ", " + what + ")", single.told(item, what), once.told(item, what));
                }
            }
            for (int i = 0; i < left; i++) {
                Check.due("out(" + i + ", 0)", single.out(i, 0), once.out(i, 0));
                Check.due("out(" + i + ", 2)", single.out(i, 2), once.out(i, 2));
            }
        }
    }

    private static SorterSteps onTheWay() {
        SorterSteps s = Check.sorter(7, 3, 4);
        s.chute(3, true);
        s.induct(1, 0, 3);
        s.induct(2, 1, 0);
        s.retry(2, 2, 1);
        s.step(2);
        s.induct(3, 0, 0);
        s.induct(4, 1, 2);
        return s;
    }

    private static void howManyLeft() {
        SorterSteps s = Check.sorter(40, 0, 40);
        Check.due("of no items", 0, s.step(100));
        for (int item = 1; item <= 40; item++) {
            s.induct(item, 0, 0);
            Check.due("none left", 0, s.step(item < 40 ? 1 : 0));
        }
        Check.due("a full loop", 0, s.count(2));
        Check.due("all but the last", 39, s.step(39));
        Check.due("the last", 1, s.step(1));
        Check.due("an empty loop", 0, s.step(100));
    }

    private static void stepsRefused() {
        SorterSteps s = Check.sorter(6, 0, 1);
        s.induct(1, 0, 1);
        for (int n : new int[] {-1, -100, 101, 102, Integer.MIN_VALUE, Integer.MAX_VALUE}) {
            Check.argument("step(" + n + ")", () -> s.step(n));
            Check.due("no steps", 0, s.count(3));
            Check.due("it did not move", 0, s.told(1, 5));
        }
        s.jam(3, 3);
        Check.argument("before the jam, too few", () -> s.step(-1));
        Check.argument("before the jam, too many", () -> s.step(101));
    }

    private static void stepJammed() {
        SorterSteps s = Check.sorter(6, 0, 1);
        s.induct(1, 0, 1);
        s.jam(3, 3);
        for (int n : new int[] {0, 1, 2, 100}) {
            Check.state("step(" + n + ")", () -> s.step(n));
        }
        Check.due("no steps", 0, s.count(3));
        s.retrack();
        Check.due("tracked anew", 1, s.step(2));
        Check.due("the steps in which it left", 2, s.out(0, 2));
    }

    private static void outInOrder() {
        SorterSteps s = Check.inEachState();
        int[] numbers = {3, 5, 6, 4};
        for (int i = 0; i < numbers.length; i++) {
            Check.due("out(" + i + ", 0)", numbers[i], s.out(i, 0));
        }
        s.step(6);
        Check.due("item 2 comes behind them", 2, s.out(4, 0));
        Check.due("the first stays the first", 3, s.out(0, 0));
    }

    private static void allSixtyLeft() {
        SorterSteps s = Check.sorter(3, 0, 60);
        for (int item = 60; item >= 1; item--) {
            s.induct(item, 1, 1);
            Check.due("it leaves", 1, s.step(1));
        }
        for (int i = 0; i < 60; i++) {
            Check.due("out(" + i + ", 0)", 60 - i, s.out(i, 0));
            Check.due("out(" + i + ", 2)", i + 1, s.out(i, 2));
        }
        Check.argument("no sixty-first", () -> s.out(60, 0));
        Check.due("all are OUT", 60, s.count(5));
    }

    private static void outChutes() {
        SorterSteps s = Check.inEachState();
        int[] chutes = {1, -1, -2, 0};
        for (int i = 0; i < chutes.length; i++) {
            Check.due("out(" + i + ", 1)", chutes[i], s.out(i, 1));
        }
        for (int chute = 1; chute <= 6; chute++) {
            SorterSteps t = Check.sorter(13, 0, 1);
            t.induct(1, 0, chute);
            t.step(12);
            Check.due("chute", chute, t.out(0, 1));
        }
    }

    private static void outSteps() {
        SorterSteps s = Check.inEachState();
        int[] steps = {1, 4, 4, 9};
        for (int i = 0; i < steps.length; i++) {
            Check.due("out(" + i + ", 2)", steps[i], s.out(i, 2));
        }
        s.step(100);
        Check.due("steps made since do not count", 1, s.out(0, 2));
        SorterSteps t = Check.sorter(6, 0, 1);
        t.induct(1, 0, 0);
        t.jam(0, 0);
        t.retrack();
        Check.due("lost before the first step", 0, t.out(0, 2));
    }

    private static void outRounds() {
        SorterSteps s = Check.sorter(6, 2, 4);
        s.induct(1, 0, 1);
        s.step(2);
        s.chute(1, true);
        s.induct(2, 0, 1);
        s.step(8);
        s.chute(1, false);
        s.step(6);
        s.chute(1, true);
        s.induct(3, 0, 1);
        s.step(2);
        s.jam(2, 2);
        s.retrack();
        s.induct(4, 0, 1);
        s.step(14);
        int[][] numberAndRounds = {{1, 0}, {2, 2}, {3, 1}, {4, 3}};
        for (int i = 0; i < numberAndRounds.length; i++) {
            Check.due("out(" + i + ", 0)", numberAndRounds[i][0], s.out(i, 0));
            Check.due("out(" + i + ", 3)", numberAndRounds[i][1], s.out(i, 3));
        }
    }

    private static void outNotSoMany() {
        SorterSteps s = Check.sorter(6, 0, 2);
        s.induct(1, 0, 1);
        for (int i : new int[] {0, 1, -1}) {
            Check.argument("none left, out(" + i + ", 0)", () -> s.out(i, 0));
        }
        s.step(2);
        Check.due("one left", 1, s.out(0, 0));
        for (int i : new int[] {-1, 1, 2, 59, 60, 99, Integer.MIN_VALUE, Integer.MAX_VALUE}) {
            for (int what = 0; what <= 3; what++) {
                int asked = what;
                Check.argument("out(" + i + ", " + what + ")", () -> s.out(i, asked));
            }
        }
    }

    private static void outNoWhat() {
        SorterSteps s = Check.inEachState();
        for (int what : new int[] {-1, 4, 5, Integer.MIN_VALUE, Integer.MAX_VALUE}) {
            for (int i = -1; i <= 4; i++) {
                int row = i;
                Check.argument("out(" + i + ", " + what + ")", () -> s.out(row, what));
            }
        }
    }

    private static void chuteWas() {
        boolean[] told = {false, true, true, false, false, true};
        for (int chute = 1; chute <= 6; chute++) {
            SorterSteps s = new SorterSteps(13, 0);
            boolean was = false;
            for (boolean full : told) {
                Check.due("chute " + chute, was, s.chute(chute, full));
                was = full;
            }
            for (int other = 1; other <= 6; other++) {
                Check.due("chute " + other + " behind " + chute, other == chute, s.chute(other, false));
            }
        }
    }

    private static void chuteNone() {
        int[][] traysAndChutes = {{2, 0}, {3, 1}, {4, 1}, {5, 2}, {12, 5}, {13, 6}, {40, 6}};
        for (int[] pair : traysAndChutes) {
            SorterSteps s = new SorterSteps(pair[0], 0);
            for (int chute : new int[] {0, -1, pair[1] + 1, 7, Integer.MIN_VALUE, Integer.MAX_VALUE}) {
                Check.argument("chute " + chute + " of " + pair[0], () -> Check.truth(s.chute(chute, true)));
                Check.argument("not full", () -> Check.truth(s.chute(chute, false)));
            }
            for (int chute = 1; chute <= pair[1]; chute++) {
                Check.due("chute " + chute + " of " + pair[0], false, s.chute(chute, true));
            }
        }
    }
}
