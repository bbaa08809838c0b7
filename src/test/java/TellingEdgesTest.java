/** Promises 13 to 16 (manual, tray, told, count): a test for each sentence that names a boundary case. */
public final class TellingEdgesTest {
    public static void main(String[] args) {
        Check.sentence("13: A MANUAL or LOST item goes to a chute by hand and is OUT: true",
            TellingEdgesTest::manualToEachChute);
        Check.sentence("13: false if that is full", TellingEdgesTest::manualToAFullChute);
        Check.sentence("13: (Its row of out() and its code stay as they are.)", TellingEdgesTest::manualKeepsItsRow);
        Check.sentence("13: (Its row of out() .. stay as they are: with rounds)",
            TellingEdgesTest::manualKeepsItsRounds);
        Check.sentence("13: IllegalArgumentException: no such item", TellingEdgesTest::manualNoItem);
        Check.sentence("13: no such chute", TellingEdgesTest::manualNoChute);
        Check.sentence("13: IllegalStateException: it is neither", TellingEdgesTest::manualOfNeither);
        Check.sentence("14: 0 if it is empty", TellingEdgesTest::trayIsEmpty);
        Check.sentence("14: ArrayIndexOutOfBoundsException (the machine's own): there is no such tray.",
            TellingEdgesTest::trayNone);
        Check.sentence("15: 4 its tray (-1 on none), 5 its position (-1)", TellingEdgesTest::toldOnNoTray);
        Check.sentence("15: 6 its retries", TellingEdgesTest::toldRetries);
        Check.sentence("15: IllegalArgumentException (no such item)", TellingEdgesTest::toldNoItem);
        Check.sentence("15: IllegalArgumentException (no such what)", TellingEdgesTest::toldNoWhat);
        Check.sentence("16: 1 items", TellingEdgesTest::countItems);
        Check.sentence("16: 2 empty trays", TellingEdgesTest::countEmptyTrays);
        Check.sentence("16: 4 chutes", TellingEdgesTest::countChutes);
        Check.sentence("16: 5 items that are OUT", TellingEdgesTest::countOut);
        Check.sentence("16: 6 whether it is jammed", TellingEdgesTest::countJammed);
        Check.sentence("16: -1 for another what", TellingEdgesTest::countNoWhat);
        Check.end();
    }

    private static void manualToEachChute() {
        for (int item : new int[] {4, 6}) {
            for (int chute = 1; chute <= 2; chute++) {
                SorterSteps s = Check.inEachState();
                Check.due("item " + item + " to " + chute, true, s.manual(item, chute));
                Check.due("OUT", 2, s.told(item, 0));
                Check.due("one more is OUT", 2, s.count(5));
                Check.due("on no tray", -1, s.told(item, 4));
            }
        }
        SorterSteps s = Check.inEachState();
        s.jam(0, 0);
        Check.due("MANUAL, while jammed", true, s.manual(4, 1));
        Check.due("LOST, while jammed", true, s.manual(6, 1));
    }

    private static void manualToAFullChute() {
        for (int item : new int[] {4, 6}) {
            SorterSteps s = Check.inEachState();
            s.chute(2, true);
            Check.due("full", false, s.manual(item, 2));
            Check.due("it stays what it is", item - 1, s.told(item, 0));
            Check.due("its rounds stay", 0, s.told(item, 2));
            Check.due("it stays full", true, s.chute(2, true));
            Check.due("another chute", true, s.manual(item, 1));
            SorterSteps t = Check.inEachState();
            t.chute(2, true);
            t.manual(item, 2);
            t.chute(2, false);
            Check.due("not full any more", true, t.manual(item, 2));
        }
    }

    private static void manualKeepsItsRow() {
        SorterSteps s = Check.inEachState();
        s.step(7);
        s.manual(4, 2);
        s.manual(6, 2);
        int[][] rows = {{2, 6, -2, 4, 0}, {3, 4, 0, 9, 0}};
        for (int[] row : rows) {
            for (int what = 0; what <= 3; what++) {
                Check.due("out(" + row[0] + ", " + what + ")", row[what + 1], s.out(row[0], what));
            }
        }
        Check.due("code of the MANUAL one", 0, s.told(4, 1));
        Check.due("code of the LOST one", 1, s.told(6, 1));
        Check.argument("no row more than the five that left", () -> s.out(5, 0));
    }

    private static void manualKeepsItsRounds() {
        SorterSteps s = Check.sorter(6, 2, 1);
        s.chute(1, true);
        s.induct(1, 1, 1);
        s.step(7);
        s.jam(2, 2);
        s.retrack();
        Check.due("a full chute", false, s.manual(1, 1));
        Check.due("rounds in its row, still LOST", 2, s.out(0, 3));
        Check.due("by hand", true, s.manual(1, 2));
        Check.due("rounds in its row", 2, s.out(0, 3));
        Check.due("rounds told", 2, s.told(1, 2));
        Check.due("code", 1, s.told(1, 1));
    }

    private static void manualNoItem() {
        SorterSteps none = new SorterSteps(6, 0);
        Check.argument("item 1 of none", () -> Check.truth(none.manual(1, 1)));
        SorterSteps s = Check.inEachState();
        for (int item : new int[] {0, -1, 7, 60, 61, Integer.MIN_VALUE, Integer.MAX_VALUE}) {
            Check.argument("item " + item, () -> Check.truth(s.manual(item, 1)));
        }
        s.chute(1, true);
        Check.argument("before the full chute", () -> Check.truth(s.manual(7, 1)));
    }

    private static void manualNoChute() {
        SorterSteps s = Check.inEachState();
        for (int chute : new int[] {0, -1, 3, 6, 7, Integer.MIN_VALUE, Integer.MAX_VALUE}) {
            for (int item = 1; item <= 6; item++) {
                int number = item;
                Check.argument("chute " + chute + ", item " + item, () -> Check.truth(s.manual(number, chute)));
                Check.due("it stays what it is", item - 1, s.told(item, 0));
            }
        }
        SorterSteps two = Check.sorter(2, 0, 1);
        two.induct(1, 1, 0);
        two.step(1);
        Check.argument("a loop without chutes", () -> Check.truth(two.manual(1, 1)));
    }

    private static void manualOfNeither() {
        SorterSteps s = Check.inEachState();
        for (int item : new int[] {1, 2, 3, 5}) {
            Check.state("in state " + (item - 1), () -> Check.truth(s.manual(item, 1)));
            Check.due("it stays what it is", item - 1, s.told(item, 0));
        }
        s.manual(4, 1);
        Check.state("a second time", () -> Check.truth(s.manual(4, 1)));
        s.chute(1, true);
        Check.state("before the full chute", () -> Check.truth(s.manual(1, 1)));
    }

    private static void trayIsEmpty() {
        SorterSteps s = Check.sorter(40, 0, 1);
        for (int tray = 0; tray < 40; tray++) {
            Check.due("at first, tray " + tray, 0, s.tray(tray));
        }
        s.induct(1, 1, 1);
        for (int tray = 0; tray < 40; tray++) {
            Check.due("tray " + tray, tray == 1 ? 1 : 0, s.tray(tray));
        }
        s.step(1);
        Check.due("the item went out", 0, s.tray(1));
    }

    private static void trayNone() {
        for (int trays : new int[] {2, 3, 39, 40}) {
            SorterSteps s = Check.filled(trays);
            for (int tray : new int[] {-1, trays, trays + 1, 41, Integer.MIN_VALUE, Integer.MAX_VALUE}) {
                Check.exception("tray(" + tray + ") of " + trays, ArrayIndexOutOfBoundsException.class,
                    () -> s.tray(tray));
            }
            for (int tray = 0; tray < trays; tray++) {
                Check.due("tray(" + tray + ") of " + trays, tray, s.told(s.tray(tray), 4));
            }
        }
    }

    private static void toldOnNoTray() {
        SorterSteps s = Check.inEachState();
        for (int item = 1; item <= 6; item++) {
            Check.due("tray in state " + (item - 1), item == 2 ? 3 : -1, s.told(item, 4));
            Check.due("position in state " + (item - 1), item == 2 ? 0 : -1, s.told(item, 5));
        }
        s.step(5);
        Check.due("its tray stays", 3, s.told(2, 4));
        Check.due("the last position", 5, s.told(2, 5));
        s.jam(5, 5);
        Check.due("doubted on its tray", 3, s.told(2, 4));
    }

    private static void toldRetries() {
        SorterSteps s = Check.sorter(4, 0, 1);
        Check.due("none told", 0, s.told(1, 6));
        s.induct(1, 0, 0);
        s.retry(1, 9, 1);
        Check.due("as many as can be", 9, s.told(1, 6));
        s.step(36);
        Check.due("none left", 0, s.told(1, 6));
    }

    private static void toldNoItem() {
        SorterSteps none = new SorterSteps(6, 0);
        Check.argument("item 1 of none", () -> none.told(1, 0));
        SorterSteps s = Check.sorter(6, 0, 60);
        Check.due("the first", 0, s.told(1, 0));
        Check.due("the last", 0, s.told(60, 0));
        for (int item : new int[] {0, -1, 61, 62, Integer.MIN_VALUE, Integer.MAX_VALUE}) {
            for (int what = 0; what <= 6; what++) {
                int asked = what;
                Check.argument("told(" + item + ", " + what + ")", () -> s.told(item, asked));
            }
        }
    }

    private static void toldNoWhat() {
        SorterSteps s = Check.inEachState();
        for (int what : new int[] {-1, 7, 8, Integer.MIN_VALUE, Integer.MAX_VALUE}) {
            for (int item = 0; item <= 7; item++) {
                int number = item;
                Check.argument("told(" + item + ", " + what + ")", () -> s.told(number, what));
            }
        }
    }

    private static void countItems() {
        SorterSteps s = new SorterSteps(6, 0);
        for (int items = 0; items < 60; items++) {
            Check.due("items", items, s.count(1));
            s.item(1);
        }
        Check.due("sixty", 60, s.count(1));
    }

    private static void countEmptyTrays() {
        Check.due("a full loop of 2", 0, Check.filled(2).count(2));
        SorterSteps s = Check.filled(40);
        Check.due("a full loop of 40", 0, s.count(2));
        s.jam(7, 7);
        Check.due("doubted, still on its tray", 0, s.count(2));
        s.retrack();
        Check.due("lost", 1, s.count(2));
        Check.due("an empty loop", 40, new SorterSteps(40, 0).count(2));
    }

    private static void countChutes() {
        for (int trays = 2; trays <= 40; trays++) {
            int chutes = 0;
            for (int position = 2; position <= 12; position += 2) {
                chutes += position < trays ? 1 : 0;
            }
            Check.due("chutes of " + trays, chutes, new SorterSteps(trays, 0).count(4));
        }
    }

    private static void countOut() {
        Check.due("of no items", 0, new SorterSteps(6, 0).count(5));
        SorterSteps s = Check.inEachState();
        Check.due("one of each state", 1, s.count(5));
        s.manual(4, 1);
        Check.due("by hand from the manual lane", 2, s.count(5));
        s.manual(6, 2);
        Check.due("by hand from the lost ones", 3, s.count(5));
    }

    private static void countJammed() {
        SorterSteps s = Check.filled(6);
        Check.due("at first", 0, s.count(6));
        s.jam(0, 0);
        Check.due("jammed", 1, s.count(6));
        s.found(1, true);
        Check.due("all found, still jammed", 1, s.count(6));
        s.retrack();
        Check.due("tracked anew", 0, s.count(6));
    }

    private static void countNoWhat() {
        SorterSteps s = Check.inEachState();
        for (int what : new int[] {-1, -2, 7, 8, 100, Integer.MIN_VALUE, Integer.MAX_VALUE}) {
            Check.due("count(" + what + ")", -1, s.count(what));
        }
    }
}
