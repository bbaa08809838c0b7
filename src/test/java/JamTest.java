/** What is ordinary in promises 9 to 12: jam, doubt, found, retrack. */
public final class JamTest {
    public static void main(String[] args) {
        jamCountsItemsBetween();
        jamRoundTheLoop();
        jamOnTheWholeLoop();
        doubtOrder();
        foundAndNotAgain();
        retrackLosesNotFound();
        retrackWithoutDoubts();
        jamAfterJam();
        Check.end();
    }

    /** Items 1 .. 4 on a loop of 6: item 1 at position 4, 2 at 3, 3 at 1, 4 at 0. */
    private static SorterSteps loaded() {
        SorterSteps s = Check.sorter(6, 0, 5);
        s.induct(1, 1, 0);
        s.induct(2, 0, 0);
        s.step(3);
        s.induct(3, 1, 2);
        s.induct(4, 0, 0);
        return s;
    }

    private static void doubts(String what, SorterSteps s, int... items) {
        for (int i = 0; i < items.length; i++) {
            Check.due(what + ", doubt(" + i + ")", items[i], s.doubt(i));
        }
        Check.due(what + ", no more", -1, s.doubt(items.length));
    }

    private static void jamCountsItemsBetween() {
        int[][] fromToItems = {
            {0, 0, 1}, {1, 1, 1}, {2, 2, 0}, {5, 5, 0}, {0, 1, 2}, {1, 2, 1}, {2, 3, 1}, {1, 4, 3}, {0, 5, 4}};
        for (int[] row : fromToItems) {
            SorterSteps s = loaded();
            Check.due("9: jam(" + row[0] + ", " + row[1] + ")", row[2], s.jam(row[0], row[1]));
            Check.due("9: jammed", 1, s.count(6));
        }
    }

    private static void jamRoundTheLoop() {
        SorterSteps s = loaded();
        Check.due("9: jam(4, 0)", 2, s.jam(4, 0));
        doubts("9: 4 .. 0", s, 1, 4);
        SorterSteps t = loaded();
        Check.due("9: jam(5, 2)", 2, t.jam(5, 2));
        doubts("9: 5 .. 2", t, 4, 3);
    }

    private static void jamOnTheWholeLoop() {
        SorterSteps s = loaded();
        Check.due("9: jam(3, 2)", 4, s.jam(3, 2));
        doubts("9: 3 .. 2", s, 2, 1, 4, 3);
    }

    private static void doubtOrder() {
        SorterSteps s = loaded();
        doubts("10: not jammed", s);
        s.jam(0, 5);
        doubts("10: upward", s, 4, 3, 2, 1);
        s.found(3, true);
        doubts("10: found ones too", s, 4, 3, 2, 1);
        s.retrack();
        doubts("10: no item is doubted any more", s);
    }

    private static void foundAndNotAgain() {
        SorterSteps s = loaded();
        s.jam(3, 1);
        Check.due("11: four doubted, one found", 3, s.found(2, true));
        Check.due("11: the same again", 3, s.found(2, true));
        Check.due("11: another", 2, s.found(4, true));
        Check.due("11: not again", 3, s.found(2, false));
        Check.due("11: not found anyway", 3, s.found(1, false));
        Check.due("11: it is still on its tray", 1, s.told(1, 0));
        s.found(1, true);
        s.found(2, true);
        Check.due("11: the last", 0, s.found(3, true));
    }

    private static void retrackLosesNotFound() {
        SorterSteps s = loaded();
        Check.state("12: not jammed", () -> s.retrack());
        s.jam(0, 4);
        s.found(3, true);
        Check.due("12: three lost", 3, s.retrack());
        Check.due("12: not jammed any more", 0, s.count(6));
        Check.state("12: once", () -> s.retrack());
        int[] states = {5, 5, 1, 5, 0};
        for (int item = 1; item <= 5; item++) {
            Check.due("12: state of " + item, states[item - 1], s.told(item, 0));
        }
        Check.due("12: their trays are empty", 5, s.count(2));
        Check.due("12: the found one stays", 3, s.tray(s.told(3, 4)));
        Check.due("12: on no tray", -1, s.told(4, 4));
        int[] order = {4, 2, 1};
        for (int i = 0; i < 3; i++) {
            Check.due("12: lost in the order of doubt", order[i], s.out(i, 0));
            Check.due("12: lost", -2, s.out(i, 1));
            Check.due("12: steps then", 3, s.out(i, 2));
        }
        Check.due("12: the found one goes on", 1, s.step(3));
        Check.due("12: to its chute", 2, s.out(3, 1));
    }

    private static void retrackWithoutDoubts() {
        SorterSteps s = loaded();
        s.jam(5, 5);
        Check.due("12: nothing to lose", 0, s.retrack());
        Check.argument("12: none left", () -> s.out(0, 0));
        s.jam(0, 0);
        s.found(4, true);
        Check.due("12: all found", 0, s.retrack());
    }

    /** What was found in one jam is doubted anew in the next. */
    private static void jamAfterJam() {
        SorterSteps s = loaded();
        s.jam(0, 1);
        s.found(3, true);
        s.found(4, true);
        s.retrack();
        Check.due("9: the same place again", 2, s.jam(0, 1));
        Check.due("9: one found, one not", 1, s.found(4, true));
        doubts("9: the new jam's doubts alone", s, 4, 3);
        Check.due("9: the other is lost", 1, s.retrack());
        Check.due("9: lost", 5, s.told(3, 0));
        Check.due("9: not lost", 1, s.told(4, 0));
    }
}
