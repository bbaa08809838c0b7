/** What is ordinary in promises 5 to 8: retry, step, out, chute. */
public final class StepTest {
    public static void main(String[] args) {
        retryGivesCodeWhenNoneIsLeft();
        retryWithoutCodeGoesManualLater();
        retryToldAnew();
        stepMovesTrays();
        stepGoesOutAtItsChute();
        stepFullChute();
        stepOrderWithinAStep();
        stepManual();
        outRows();
        chuteAnswersWhatWas();
        Check.end();
    }

    private static void retryGivesCodeWhenNoneIsLeft() {
        SorterSteps s = Check.sorter(6, 0, 1);
        s.induct(1, 0, 0);
        s.retry(1, 2, 2);
        Check.due("5: retries", 2, s.told(1, 6));
        Check.due("5: no code yet", 0, s.told(1, 1));
        Check.due("5: not before position 0", 0, s.step(5));
        Check.due("5: retries stay", 2, s.told(1, 6));
        Check.due("5: read at position 0", 0, s.step(1));
        Check.due("5: one fewer", 1, s.told(1, 6));
        Check.due("5: still no code", 0, s.told(1, 1));
        Check.due("5: read again", 0, s.step(6));
        Check.due("5: none left", 0, s.told(1, 6));
        Check.due("5: the code told", 2, s.told(1, 1));
        Check.due("5: at its chute", 1, s.step(4));
        Check.due("5: out there", 2, s.out(0, 1));
        Check.due("5: steps", 16, s.out(0, 2));
    }

    private static void retryWithoutCodeGoesManualLater() {
        SorterSteps s = Check.sorter(4, 0, 1);
        s.induct(1, 0, 0);
        s.retry(1, 1, 0);
        Check.due("5: the retry was used", 0, s.step(4));
        Check.due("5: retries", 0, s.told(1, 6));
        Check.due("5: on its tray", 1, s.told(1, 0));
        Check.due("5: one loop more", 1, s.step(4));
        Check.due("5: manual then", 3, s.told(1, 0));
    }

    private static void retryToldAnew() {
        SorterSteps s = Check.sorter(6, 0, 1);
        s.induct(1, 1, 0);
        s.retry(1, 9, 1);
        s.retry(1, 1, 2);
        s.jam(0, 5);
        s.retry(1, 1, 2);
        s.found(1, true);
        s.retrack();
        s.step(5);
        Check.due("5: the last one told holds", 2, s.told(1, 1));
        Check.state("5: it has a code now", () -> Check.retry(s, 1, 1, 1));
    }

    private static void stepMovesTrays() {
        SorterSteps s = Check.sorter(5, 0, 1);
        s.induct(1, 1, 0);
        Check.due("6: none", 0, s.step(0));
        Check.due("6: not moved", 1, s.told(1, 5));
        s.step(2);
        Check.due("6: two on", 3, s.told(1, 5));
        Check.due("6: on the same tray", 1, s.told(1, 4));
        Check.due("6: the tray holds it", 1, s.tray(1));
        s.step(1);
        Check.due("6: the last position", 4, s.told(1, 5));
        Check.due("6: steps", 3, s.count(3));
        s.step(100);
        Check.due("6: a hundred more", 103, s.count(3));
    }

    private static void stepGoesOutAtItsChute() {
        SorterSteps s = Check.sorter(7, 0, 2);
        s.induct(1, 0, 2);
        s.induct(2, 1, 3);
        Check.due("6: past chute 1", 0, s.step(3));
        Check.due("6: no round for another's chute", 0, s.told(1, 2));
        Check.due("6: at chute 2", 1, s.step(1));
        Check.due("6: OUT", 2, s.told(1, 0));
        Check.due("6: its tray is empty", 0, s.tray(0));
        Check.due("6: on no tray", -1, s.told(1, 4));
        Check.due("6: no position", -1, s.told(1, 5));
        Check.due("6: at chute 3", 1, s.step(1));
        Check.due("6: its chute", 3, s.out(1, 1));
    }

    private static void stepFullChute() {
        SorterSteps s = Check.sorter(6, 1, 2);
        s.chute(1, true);
        s.induct(1, 0, 1);
        Check.due("6: it is full", 0, s.step(2));
        Check.due("6: one round", 1, s.told(1, 2));
        Check.due("6: as many as told is not too many", 1, s.told(1, 0));
        s.chute(1, false);
        Check.due("6: not full any more", 1, s.step(6));
        Check.due("6: OUT with one round", 1, s.out(0, 3));
        s.chute(1, true);
        s.induct(2, 0, 1);
        Check.due("6: more rounds than told", 1, s.step(8));
        Check.due("6: OVERFLOW", 4, s.told(2, 0));
        Check.due("6: two rounds", 2, s.told(2, 2));
        Check.due("6: its code stays", 1, s.told(2, 1));
        Check.due("6: it is not OUT", 1, s.count(5));
    }

    /** In one step items leave at both chutes and at position 0: the chutes come first, upward. */
    private static void stepOrderWithinAStep() {
        SorterSteps s = Check.sorter(6, 0, 3);
        s.induct(1, 0, 2);
        s.step(2);
        s.chute(2, true);
        s.induct(2, 0, 1);
        Check.due("6: both leave", 2, s.step(2));
        Check.due("6: chute 1 is before chute 2", 2, s.out(0, 0));
        Check.due("6: chute 2 comes next", 1, s.out(1, 0));
        Check.due("6: in the same step", s.out(0, 2), s.out(1, 2));

        SorterSteps t = Check.sorter(3, 0, 2);
        t.induct(1, 1, 0);
        t.step(1);
        t.induct(2, 1, 1);
        Check.due("6: a chute's and the unread one", 2, t.step(1));
        Check.due("6: the chute is first", 2, t.out(0, 0));
        Check.due("6: position 0 is last", 1, t.out(1, 0));
    }

    private static void stepManual() {
        SorterSteps s = Check.sorter(4, 0, 2);
        s.induct(1, 1, 0);
        Check.due("6: not yet at 0", 0, s.step(2));
        Check.due("6: at 0 again", 1, s.step(1));
        Check.due("6: MANUAL", 3, s.told(1, 0));
        Check.due("6: its tray is empty", 4, s.count(2));
        s.induct(2, 0, 0);
        Check.due("6: all loops in one call", 1, s.step(100));
    }

    private static void outRows() {
        SorterSteps s = Check.sorter(6, 0, 4);
        s.chute(2, true);
        s.induct(1, 0, 1);
        s.induct(2, 1, 2);
        s.step(4);
        s.induct(3, 0, 0);
        s.step(6);
        s.induct(4, 0, 1);
        s.jam(0, 0);
        s.retrack();
        int[][] rows = {{1, 1, 2, 0}, {2, -1, 3, 1}, {3, 0, 10, 0}, {4, -2, 10, 0}};
        for (int i = 0; i < rows.length; i++) {
            for (int what = 0; what < 4; what++) {
                Check.due("7: out(" + i + ", " + what + ")", rows[i][what], s.out(i, what));
            }
        }
        s.step(5);
        Check.due("7: a row stays", 10, s.out(3, 2));
    }

    private static void chuteAnswersWhatWas() {
        SorterSteps s = new SorterSteps(40, 0);
        for (int chute = 1; chute <= 6; chute++) {
            Check.due("8: at first, chute " + chute, false, s.chute(chute, true));
            Check.due("8: full, chute " + chute, true, s.chute(chute, true));
            Check.due("8: still full, chute " + chute, true, s.chute(chute, false));
            Check.due("8: not full, chute " + chute, false, s.chute(chute, false));
        }
        s.chute(3, true);
        Check.due("8: a neighbour", false, s.chute(2, false));
        Check.due("8: the other neighbour", false, s.chute(4, false));
        s.jam(0, 0);
        Check.due("8: while jammed", true, s.chute(3, false));
    }
}
