/** What is ordinary in promises 13 to 16: manual, tray, told, count. */
public final class TellingTest {
    public static void main(String[] args) {
        manualOfManual();
        manualOfLost();
        trayTellsItem();
        toldOfNewItem();
        toldOnTheWay();
        toldAfterLeaving();
        countAll();
        countOutByAllWays();
        Check.end();
    }

    private static void manualOfManual() {
        SorterSteps s = Check.sorter(6, 0, 1);
        s.induct(1, 0, 0);
        s.step(6);
        s.chute(1, true);
        Check.due("13: the chute is full", false, s.manual(1, 1));
        Check.due("13: it stays MANUAL", 3, s.told(1, 0));
        Check.due("13: another chute", true, s.manual(1, 2));
        Check.due("13: OUT", 2, s.told(1, 0));
        Check.due("13: its code stays", 0, s.told(1, 1));
        Check.due("13: its row stays", 0, s.out(0, 1));
        Check.argument("13: no row more", () -> s.out(1, 0));
        Check.state("13: OUT already", () -> Check.truth(s.manual(1, 2)));
    }

    private static void manualOfLost() {
        SorterSteps s = Check.sorter(6, 0, 2);
        s.induct(1, 0, 2);
        s.jam(0, 0);
        s.retrack();
        s.jam(3, 3);
        Check.due("13: a lost one, while jammed", true, s.manual(1, 1));
        Check.due("13: OUT", 2, s.told(1, 0));
        Check.due("13: its code stays", 2, s.told(1, 1));
        Check.due("13: its row stays", -2, s.out(0, 1));
    }

    private static void trayTellsItem() {
        SorterSteps s = Check.sorter(4, 0, 2);
        s.induct(2, 1, 0);
        Check.due("14: empty", 0, s.tray(0));
        Check.due("14: an item", 2, s.tray(1));
        s.step(1);
        Check.due("14: trays keep their numbers", 2, s.tray(1));
        Check.due("14: the next stays empty", 0, s.tray(2));
        s.step(2);
        Check.due("14: empty again", 0, s.tray(1));
    }

    private static void told(SorterSteps s, int item, int... due) {
        for (int what = 0; what < due.length; what++) {
            Check.due("15: told(" + item + ", " + what + ")", due[what], s.told(item, what));
        }
    }

    private static void toldOfNewItem() {
        SorterSteps s = new SorterSteps(6, 0);
        s.item(33);
        told(s, 1, 0, 0, 0, 33, -1, -1, 0);
    }

    private static void toldOnTheWay() {
        SorterSteps s = Check.sorter(6, 2, 2);
        s.step(4);
        s.chute(1, true);
        s.induct(1, 0, 1);
        s.induct(2, 1, 0);
        s.retry(2, 3, 2);
        told(s, 1, 1, 1, 0, 10, 2, 0, 0);
        told(s, 2, 1, 0, 0, 10, 3, 1, 3);
        s.step(5);
        told(s, 1, 1, 1, 1, 10, 2, 5, 0);
        told(s, 2, 1, 0, 0, 10, 3, 0, 2);
    }

    private static void toldAfterLeaving() {
        SorterSteps s = Check.sorter(6, 0, 4);
        s.chute(2, true);
        s.induct(1, 0, 2);
        s.induct(2, 1, 1);
        s.step(4);
        s.induct(3, 0, 0);
        s.retry(3, 4, 1);
        s.induct(4, 1, 0);
        s.jam(0, 0);
        s.retrack();
        s.step(5);
        told(s, 1, 4, 2, 1, 10, -1, -1, 0);
        told(s, 2, 2, 1, 0, 10, -1, -1, 0);
        told(s, 3, 5, 0, 0, 10, -1, -1, 4);
        told(s, 4, 3, 0, 0, 10, -1, -1, 0);
    }

    private static void counts(SorterSteps s, int... due) {
        for (int what = 0; what < due.length; what++) {
            Check.due("16: count(" + what + ")", due[what], s.count(what));
        }
    }

    private static void countAll() {
        SorterSteps s = Check.sorter(9, 0, 3);
        counts(s, 9, 3, 9, 0, 4, 0, 0);
        s.induct(1, 0, 1);
        s.induct(2, 1, 4);
        counts(s, 9, 3, 7, 0, 4, 0, 0);
        s.step(2);
        counts(s, 9, 3, 8, 2, 4, 1, 0);
        s.jam(0, 0);
        counts(s, 9, 3, 8, 2, 4, 1, 1);
        s.retrack();
        counts(s, 9, 3, 8, 2, 4, 1, 0);
    }

    /** OUT are those out at a chute, by the sorter or by hand; no others that left their trays. */
    private static void countOutByAllWays() {
        SorterSteps s = Check.sorter(6, 0, 4);
        s.chute(2, true);
        s.induct(1, 0, 2);
        s.induct(2, 1, 1);
        s.step(4);
        Check.due("16: not the overflow", 1, s.count(5));
        s.induct(3, 0, 0);
        s.step(6);
        Check.due("16: not the manual one", 1, s.count(5));
        s.induct(4, 0, 0);
        s.jam(0, 5);
        s.retrack();
        Check.due("16: not the lost one", 1, s.count(5));
        s.manual(3, 1);
        s.manual(4, 1);
        Check.due("16: by hand too", 3, s.count(5));
    }
}
