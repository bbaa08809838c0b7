/** Promises 5 to 8: retry, step, out, chute. */
public final class StepTest {
    public static void main(String[] args) {
        retryGivesCodeWhenNoneIsLeft();
        retryOfNoneGoesManual();
        retryWithoutCodeGoesManualLater();
        retryToldAnew();
        retryWrong();
        stepMovesTrays();
        stepGoesOutAtItsChute();
        stepThroughAllChutes();
        stepFullChute();
        stepOrderWithinAStep();
        stepManual();
        stepWrong();
        outRows();
        outWrong();
        chuteAnswersWhatWas();
        chuteWrong();
        Check.end();
    }

    private static void retryGivesCodeWhenNoneIsLeft() {
        SorterSteps s = Check.sorter(6, 0, 1);
        s.induct(1, 0, 0);
        s.retry(1, 2, 2);
        Check.due("5: retries", 2, s.told(1, 6));
        Check.due("5: no code yet", 0, s.told(1, 1));
        Check.due("5: not before position 0", 0, s.step(5));
        Check.due("5: retries stay", 2, s.told(1, 6));
        Check.due("5: read at position 0", 0, s.step(1));
        Check.due("5: one fewer", 1, s.told(1, 6));
        Check.due("5: still no code", 0, s.told(1, 1));
        Check.due("5: read again", 0, s.step(6));
        Check.due("5: none left", 0, s.told(1, 6));
        Check.due("5: the code told", 2, s.told(1, 1));
        Check.due("5: at its chute", 1, s.step(4));
        Check.due("5: out there", 2, s.out(0, 1));
        Check.due("5: steps", 16, s.out(0, 2));
    }

    private static void retryOfNoneGoesManual() {
        SorterSteps s = Check.sorter(4, 0, 1);
        s.induct(1, 0, 0);
        s.retry(1, 0, 1);
        Check.due("5: without retries", 1, s.step(4));
        Check.due("5: manual", 3, s.told(1, 0));
        Check.due("5: it never got the code", 0, s.told(1, 1));
    }

    private static void retryWithoutCodeGoesManualLater() {
        SorterSteps s = Check.sorter(4, 0, 1);
        s.induct(1, 0, 0);
        s.retry(1, 1, 0);
        Check.due("5: the retry was used", 0, s.step(4));
        Check.due("5: retries", 0, s.told(1, 6));
        Check.due("5: on its tray", 1, s.told(1, 0));
        Check.due("5: one loop more", 1, s.step(4));
        Check.due("5: manual then", 3, s.told(1, 0));
    }

    private static void retryToldAnew() {
        SorterSteps s = Check.sorter(6, 0, 1);
        s.induct(1, 1, 0);
        s.retry(1, 9, 1);
        s.retry(1, 1, 2);
        s.jam(0, 5);
        s.retry(1, 1, 2);
        s.found(1, true);
        s.retrack();
        s.step(5);
        Check.due("5: the last one told holds", 2, s.told(1, 1));
        Check.state("5: it has a code now", () -> Check.retry(s, 1, 1, 1));
    }

    private static void retryWrong() {
        SorterSteps s = Check.sorter(6, 0, 3);
        s.induct(1, 0, 0);
        s.induct(2, 1, 1);
        for (int item : new int[] {0, -1, 4, Integer.MIN_VALUE, Integer.MAX_VALUE}) {
            Check.argument("5: item " + item, () -> Check.retry(s, item, 1, 1));
        }
        for (int retries : new int[] {-1, 10, Integer.MIN_VALUE, Integer.MAX_VALUE}) {
            Check.argument("5: retries " + retries, () -> Check.retry(s, 1, retries, 1));
            Check.argument("5: before the state, retries " + retries, () -> Check.retry(s, 3, retries, 1));
        }
        for (int code : new int[] {-1, 3, Integer.MIN_VALUE, Integer.MAX_VALUE}) {
            Check.argument("5: code " + code, () -> Check.retry(s, 1, 1, code));
            Check.argument("5: before the state, code " + code, () -> Check.retry(s, 2, 1, code));
        }
        Check.state("5: NEW", () -> Check.retry(s, 3, 1, 1));
        Check.state("5: has a code", () -> Check.retry(s, 2, 0, 0));
        s.step(6);
        Check.state("5: manual", () -> Check.retry(s, 1, 1, 1));
        Check.state("5: out", () -> Check.retry(s, 2, 1, 1));
        Check.due("5: nothing was told", 0, s.told(1, 6));
    }

    private static void stepMovesTrays() {
        SorterSteps s = Check.sorter(5, 0, 1);
        s.induct(1, 1, 0);
        Check.due("6: none", 0, s.step(0));
        Check.due("6: not moved", 1, s.told(1, 5));
        s.step(2);
        Check.due("6: two on", 3, s.told(1, 5));
        Check.due("6: on the same tray", 1, s.told(1, 4));
        Check.due("6: the tray holds it", 1, s.tray(1));
        s.step(1);
        Check.due("6: the last position", 4, s.told(1, 5));
        Check.due("6: steps", 3, s.count(3));
        s.step(100);
        Check.due("6: a hundred more", 103, s.count(3));
    }

    private static void stepGoesOutAtItsChute() {
        SorterSteps s = Check.sorter(7, 0, 2);
        s.induct(1, 0, 2);
        s.induct(2, 1, 3);
        Check.due("6: past chute 1", 0, s.step(3));
        Check.due("6: no round for another's chute", 0, s.told(1, 2));
        Check.due("6: at chute 2", 1, s.step(1));
        Check.due("6: OUT", 2, s.told(1, 0));
        Check.due("6: its tray is empty", 0, s.tray(0));
        Check.due("6: on no tray", -1, s.told(1, 4));
        Check.due("6: no position", -1, s.told(1, 5));
        Check.due("6: at chute 3", 1, s.step(1));
        Check.due("6: its chute", 3, s.out(1, 1));
    }

    private static void stepThroughAllChutes() {
        for (int chute = 1; chute <= 6; chute++) {
            SorterSteps s = Check.sorter(13, 0, 1);
            s.induct(1, 0, chute);
            Check.due("6: before chute " + chute, 0, s.step(2 * chute - 1));
            Check.due("6: at chute " + chute, 1, s.step(1));
            Check.due("6: out at chute " + chute, chute, s.out(0, 1));
        }
    }

    private static void stepFullChute() {
        SorterSteps s = Check.sorter(6, 1, 2);
        s.chute(1, true);
        s.induct(1, 0, 1);
        Check.due("6: it is full", 0, s.step(2));
        Check.due("6: one round", 1, s.told(1, 2));
        Check.due("6: as many as told is not too many", 1, s.told(1, 0));
        s.chute(1, false);
        Check.due("6: not full any more", 1, s.step(6));
        Check.due("6: OUT with one round", 1, s.out(0, 3));
        s.chute(1, true);
        s.induct(2, 0, 1);
        Check.due("6: more rounds than told", 1, s.step(8));
        Check.due("6: OVERFLOW", 4, s.told(2, 0));
        Check.due("6: two rounds", 2, s.told(2, 2));
        Check.due("6: its code stays", 1, s.told(2, 1));
        Check.due("6: it is not OUT", 1, s.count(5));
    }

    /** In one step items leave at both chutes and at position 0: the chutes come first, upward. */
    private static void stepOrderWithinAStep() {
        SorterSteps s = Check.sorter(6, 0, 3);
        s.induct(1, 0, 2);
        s.step(2);
        s.chute(2, true);
        s.induct(2, 0, 1);
        Check.due("6: both leave", 2, s.step(2));
        Check.due("6: chute 1 is before chute 2", 2, s.out(0, 0));
        Check.due("6: chute 2 comes next", 1, s.out(1, 0));
        Check.due("6: in the same step", s.out(0, 2), s.out(1, 2));

        SorterSteps t = Check.sorter(3, 0, 2);
        t.induct(1, 1, 0);
        t.step(1);
        t.induct(2, 1, 1);
        Check.due("6: a chute's and the unread one", 2, t.step(1));
        Check.due("6: the chute is first", 2, t.out(0, 0));
        Check.due("6: position 0 is last", 1, t.out(1, 0));
    }

    private static void stepManual() {
        SorterSteps s = Check.sorter(4, 0, 2);
        s.induct(1, 1, 0);
        Check.due("6: not yet at 0", 0, s.step(2));
        Check.due("6: at 0 again", 1, s.step(1));
        Check.due("6: MANUAL", 3, s.told(1, 0));
        Check.due("6: its tray is empty", 4, s.count(2));
        s.induct(2, 0, 0);
        Check.due("6: all loops in one call", 1, s.step(100));
    }

    private static void stepWrong() {
        SorterSteps s = Check.sorter(4, 0, 1);
        s.induct(1, 0, 1);
        for (int n : new int[] {-1, 101, Integer.MIN_VALUE, Integer.MAX_VALUE}) {
            Check.argument("6: step(" + n + ")", () -> s.step(n));
        }
        s.jam(3, 3);
        Check.state("6: jammed", () -> s.step(1));
        Check.state("6: no steps while jammed", () -> s.step(0));
        Check.argument("6: the argument comes first", () -> s.step(101));
        Check.due("6: nothing moved", 0, s.count(3));
        s.retrack();
        Check.due("6: goes on", 1, s.step(2));
    }

    private static void outRows() {
        SorterSteps s = Check.sorter(6, 0, 4);
        s.chute(2, true);
        s.induct(1, 0, 1);
        s.induct(2, 1, 2);
        s.step(4);
        s.induct(3, 0, 0);
        s.step(6);
        s.induct(4, 0, 1);
        s.jam(0, 0);
        s.retrack();
        int[][] rows = {{1, 1, 2, 0}, {2, -1, 3, 1}, {3, 0, 10, 0}, {4, -2, 10, 0}};
        for (int i = 0; i < rows.length; i++) {
            for (int what = 0; what < 4; what++) {
                Check.due("7: out(" + i + ", " + what + ")", rows[i][what], s.out(i, what));
            }
        }
        s.step(5);
        Check.due("7: a row stays", 10, s.out(3, 2));
    }

    private static void outWrong() {
        SorterSteps s = Check.sorter(6, 0, 1);
        Check.argument("7: none left", () -> s.out(0, 0));
        s.induct(1, 0, 1);
        s.step(2);
        for (int i : new int[] {-1, 1, 59, 60, Integer.MIN_VALUE, Integer.MAX_VALUE}) {
            Check.argument("7: out(" + i + ", 0)", () -> s.out(i, 0));
        }
        for (int what : new int[] {-1, 4, Integer.MIN_VALUE, Integer.MAX_VALUE}) {
            Check.argument("7: out(0, " + what + ")", () -> s.out(0, what));
        }
    }

    private static void chuteAnswersWhatWas() {
        SorterSteps s = new SorterSteps(40, 0);
        for (int chute = 1; chute <= 6; chute++) {
            Check.due("8: at first, chute " + chute, false, s.chute(chute, true));
            Check.due("8: full, chute " + chute, true, s.chute(chute, true));
            Check.due("8: still full, chute " + chute, true, s.chute(chute, false));
            Check.due("8: not full, chute " + chute, false, s.chute(chute, false));
        }
        s.chute(3, true);
        Check.due("8: a neighbour", false, s.chute(2, false));
        Check.due("8: the other neighbour", false, s.chute(4, false));
        s.jam(0, 0);
        Check.due("8: while jammed", true, s.chute(3, false));
    }

    private static void chuteWrong() {
        int[][] traysAndChutes = {{2, 0}, {3, 1}, {4, 1}, {5, 2}, {12, 5}, {13, 6}, {14, 6}, {15, 6}, {40, 6}};
        for (int[] pair : traysAndChutes) {
            SorterSteps s = new SorterSteps(pair[0], 0);
            Check.argument("8: chute 0", () -> Check.truth(s.chute(0, true)));
            Check.argument("8: one too many", () -> Check.truth(s.chute(pair[1] + 1, true)));
            Check.argument("8: below", () -> Check.truth(s.chute(Integer.MIN_VALUE, true)));
            Check.argument("8: above", () -> Check.truth(s.chute(Integer.MAX_VALUE, false)));
            if (pair[1] > 0) {
                Check.due("8: the last one", false, s.chute(pair[1], true));
            }
        }
    }
}
