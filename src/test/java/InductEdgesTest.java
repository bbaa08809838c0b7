/** Promises 1 to 4 (a new object, item, induct, length): a test for each sentence that names a boundary case. */
public final class InductEdgesTest {
    public static void main(String[] args) {
        Check.sentence("1: So many trays: below 2 as 2", InductEdgesTest::traysBelowTwo);
        Check.sentence("1: above 40 as 40", InductEdgesTest::traysAboveForty);
        Check.sentence("1: so many rounds: below 0 as 0", InductEdgesTest::roundsBelowNone);
        Check.sentence("1: above 9 as 9", InductEdgesTest::roundsAboveNine);
        Check.sentence("2: IllegalArgumentException", InductEdgesTest::itemOfWrongLength);
        Check.sentence("2: UnsupportedOperationException: there are sixty.", InductEdgesTest::thereAreSixty);
        Check.sentence("3: the tray at an induct's position (0 or 1)", InductEdgesTest::inductPositions);
        Check.sentence("3: a code (0, or a chute that there is)", InductEdgesTest::inductCodes);
        Check.sentence("3: IllegalArgumentException: no such item", InductEdgesTest::inductNoItem);
        Check.sentence("3: no such induct", InductEdgesTest::inductNoInduct);
        Check.sentence("3: no such code", InductEdgesTest::inductNoCode);
        Check.sentence("3: IllegalStateException: it is not NEW", InductEdgesTest::inductNotNew);
        Check.sentence("3: the tray is not empty", InductEdgesTest::inductNotEmpty);
        Check.sentence("3: it is jammed", InductEdgesTest::inductJammed);
        Check.sentence("3: the item is longer than the trays' length (60 at first)", InductEdgesTest::inductTooLong);
        Check.sentence("4: The trays' length (1 .. 100)", InductEdgesTest::trayLengths);
        Check.sentence("4: how many items on trays are longer", InductEdgesTest::longerItems);
        Check.sentence("4: IllegalArgumentException.", InductEdgesTest::wrongTrayLength);
        Check.end();
    }

    private static void trays(int told, int held) {
        SorterSteps s = new SorterSteps(told, 0);
        Check.due("trays of " + told, held, s.count(0));
        Check.due("all are empty", held, s.count(2));
        Check.due("the last one is there", 0, s.tray(held - 1));
        Check.exception("none behind it", ArrayIndexOutOfBoundsException.class, () -> s.tray(held));
    }

    private static void traysBelowTwo() {
        for (int told : new int[] {Integer.MIN_VALUE, -40, -2, -1, 0, 1, 2}) {
            trays(told, 2);
        }
        trays(3, 3);
    }

    private static void traysAboveForty() {
        for (int told : new int[] {40, 41, 42, 80, Integer.MAX_VALUE}) {
            trays(told, 40);
        }
        trays(39, 39);
    }

    /** The rounds are seen in how often an item passes its full chute before the overflow takes it. */
    private static void rounds(int told, int held) {
        SorterSteps s = Check.sorter(3, told, 1);
        s.chute(1, true);
        s.induct(1, 1, 1);
        for (int pass = 1; pass <= held; pass++) {
            Check.due("pass " + pass + " of rounds " + told, 0, s.step(pass == 1 ? 1 : 3));
        }
        Check.due("the pass behind rounds " + told, 1, s.step(held == 0 ? 1 : 3));
        Check.due("OVERFLOW", 4, s.told(1, 0));
        Check.due("rounds", held + 1, s.out(0, 3));
    }

    private static void roundsBelowNone() {
        for (int told : new int[] {Integer.MIN_VALUE, -9, -1, 0}) {
            rounds(told, 0);
        }
        rounds(1, 1);
    }

    private static void roundsAboveNine() {
        for (int told : new int[] {9, 10, 11, 100, Integer.MAX_VALUE}) {
            rounds(told, 9);
        }
        rounds(8, 8);
    }

    private static void itemOfWrongLength() {
        SorterSteps s = new SorterSteps(5, 2);
        for (int length : new int[] {0, -1, -100, 101, 102, Integer.MIN_VALUE, Integer.MAX_VALUE}) {
            Check.argument("item(" + length + ")", () -> s.item(length));
            Check.due("none came", 0, s.count(1));
        }
        Check.due("the shortest takes the first number", 1, s.item(1));
        Check.due("the longest", 2, s.item(100));
    }

    private static void thereAreSixty() {
        SorterSteps s = Check.sorter(5, 0, 59);
        Check.due("the sixtieth", 60, s.item(100));
        for (int length : new int[] {1, 60, 100}) {
            Check.exception("one more", UnsupportedOperationException.class, () -> s.item(length));
        }
        Check.argument("the wrong length comes first", () -> s.item(0));
        Check.argument("the wrong length comes first", () -> s.item(101));
        Check.due("sixty stay", 60, s.count(1));
        s.induct(1, 0, 1);
        s.step(2);
        Check.exception("though one is OUT", UnsupportedOperationException.class, () -> s.item(1));
        Check.due("the sixtieth is as it came", 100, s.told(60, 3));
    }

    private static void inductPositions() {
        SorterSteps s = Check.sorter(2, 0, 3);
        Check.due("at 1", 1, s.induct(1, 1, 0));
        Check.due("at 0", 0, s.induct(2, 0, 0));
        Check.due("item 1 goes MANUAL", 1, s.step(1));
        Check.due("its tray is at 0 and empty", 1, s.induct(3, 0, 0));
    }

    private static void inductCodes() {
        for (int trays : new int[] {2, 3, 4, 5, 12, 13, 40}) {
            SorterSteps s = new SorterSteps(trays, 0);
            for (int code = 0; code <= s.count(4); code++) {
                SorterSteps t = Check.sorter(trays, 0, 1);
                Check.due("code " + code + " of " + trays + " trays", 0, t.induct(1, 0, code));
                Check.due("its code", code, t.told(1, 1));
            }
        }
    }

    /** What a refused call must leave: item 1 NEW without a code, all trays empty. */
    private static void nothingCame(SorterSteps s) {
        Check.due("NEW", 0, s.told(1, 0));
        Check.due("no code", 0, s.told(1, 1));
        Check.due("all trays are empty", s.count(0), s.count(2));
    }

    private static void inductNoItem() {
        SorterSteps none = new SorterSteps(6, 0);
        Check.argument("item 1 of none", () -> none.induct(1, 0, 0));
        SorterSteps s = Check.sorter(6, 0, 2);
        for (int item : new int[] {0, -1, 3, 60, 61, Integer.MIN_VALUE, Integer.MAX_VALUE}) {
            Check.argument("item " + item, () -> s.induct(item, 0, 1));
        }
        nothingCame(s);
        s.jam(0, 0);
        Check.argument("before the jam", () -> s.induct(3, 0, 0));
    }

    private static void inductNoInduct() {
        for (int trays : new int[] {2, 6}) {
            SorterSteps s = Check.sorter(trays, 0, 2);
            for (int at : new int[] {-1, -2, 2, 3, 6, Integer.MIN_VALUE, Integer.MAX_VALUE}) {
                Check.argument("induct " + at, () -> s.induct(1, at, 0));
            }
            nothingCame(s);
            s.induct(1, 0, 0);
            Check.argument("before the state", () -> s.induct(1, 2, 0));
        }
    }

    private static void inductNoCode() {
        int[][] traysAndChutes = {{2, 0}, {3, 1}, {4, 1}, {5, 2}, {12, 5}, {13, 6}, {40, 6}};
        for (int[] pair : traysAndChutes) {
            SorterSteps s = Check.sorter(pair[0], 0, 2);
            for (int code : new int[] {-1, pair[1] + 1, 7, Integer.MIN_VALUE, Integer.MAX_VALUE}) {
                Check.argument("code " + code + " of " + pair[0] + " trays", () -> s.induct(1, 0, code));
            }
            nothingCame(s);
            s.induct(1, 0, 0);
            Check.argument("before the state", () -> s.induct(1, 0, pair[1] + 1));
        }
    }

    private static void inductNotNew() {
        SorterSteps s = Check.inEachState();
        for (int item = 2; item <= 6; item++) {
            int state = item - 1;
            int number = item;
            Check.state("in state " + state, () -> s.induct(number, 1, 0));
            Check.due("its state stays", state, s.told(item, 0));
        }
        Check.due("NEW, onto the tray at 1", 4, s.induct(1, 1, 0));
    }

    private static void inductNotEmpty() {
        SorterSteps s = Check.sorter(6, 0, 4);
        s.induct(1, 0, 0);
        Check.state("at 0", () -> s.induct(2, 0, 0));
        Check.due("at 1 is another tray", 1, s.induct(2, 1, 0));
        Check.state("at 1", () -> s.induct(3, 1, 0));
        s.step(1);
        Check.state("the one from 0 is at 1 now", () -> s.induct(3, 1, 0));
        Check.due("it is still there", 1, s.tray(0));
        Check.due("still NEW", 0, s.told(3, 0));
        Check.due("the one from the last is at 0 now", 5, s.induct(3, 0, 0));
        Check.due("one goes MANUAL", 1, s.step(4));
        Check.due("and leaves its tray empty", 1, s.induct(4, 0, 0));
    }

    private static void inductJammed() {
        SorterSteps s = Check.sorter(6, 0, 1);
        s.jam(3, 4);
        Check.state("at 0", () -> s.induct(1, 0, 1));
        Check.state("at 1", () -> s.induct(1, 1, 1));
        nothingCame(s);
        s.retrack();
        Check.due("tracked anew", 0, s.induct(1, 0, 1));
    }

    private static void inductTooLong() {
        for (int trayLength : new int[] {1, 2, 59, 60, 61, 99}) {
            SorterSteps s = new SorterSteps(6, 0);
            s.item(trayLength + 1);
            s.item(trayLength);
            if (trayLength != 60) {
                s.length(trayLength);
            }
            Check.state("longer than " + trayLength, () -> s.induct(1, 0, 0));
            nothingCame(s);
            Check.due("as long as " + trayLength, 0, s.induct(2, 0, 0));
        }
    }

    private static void trayLengths() {
        for (int length : new int[] {1, 2, 99, 100}) {
            SorterSteps s = new SorterSteps(6, 0);
            s.item(length);
            Check.due("length(" + length + ")", 0, s.length(length));
            Check.due("it holds", 0, s.induct(1, 0, 0));
        }
    }

    private static void longerItems() {
        SorterSteps s = new SorterSteps(6, 0);
        for (int length : new int[] {40, 41, 42, 50}) {
            s.item(length);
        }
        Check.due("none on trays", 0, s.length(1));
        Check.due("long enough", 0, s.length(60));
        s.induct(1, 0, 0);
        s.induct(2, 1, 0);
        s.step(2);
        s.induct(3, 0, 0);
        int[][] lengthAndLonger = {{1, 3}, {39, 3}, {40, 2}, {41, 1}, {42, 0}, {43, 0}, {100, 0}};
        for (int[] pair : lengthAndLonger) {
            Check.due("length(" + pair[0] + ")", pair[1], s.length(pair[0]));
        }
        Check.due("they stay on their trays", 3, s.count(2));
        s.jam(0, 0);
        Check.due("while jammed", 3, s.length(1));
        s.retrack();
        Check.due("not the lost one", 2, s.length(1));
    }

    private static void wrongTrayLength() {
        SorterSteps s = new SorterSteps(6, 0);
        s.item(60);
        s.item(61);
        for (int length : new int[] {0, -1, 101, Integer.MIN_VALUE, Integer.MAX_VALUE}) {
            Check.argument("length(" + length + ")", () -> s.length(length));
        }
        Check.state("the length stays, not longer", () -> s.induct(2, 0, 0));
        Check.due("the length stays, not shorter", 0, s.induct(1, 0, 0));
    }
}
