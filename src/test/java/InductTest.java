/** Promises 1 to 4: a new object, item, induct, length. */
public final class InductTest {
    public static void main(String[] args) {
        newObjectTrays();
        newObjectRounds();
        newObjectIsEmpty();
        itemNumbers();
        itemLengths();
        sixtyItems();
        inductPutsOntoTray();
        inductAfterSteps();
        inductWrongArguments();
        inductWrongStates();
        inductArgumentsBeforeStates();
        inductLength();
        lengthCountsLongerOnTrays();
        lengthWrong();
        Check.end();
    }

    private static void newObjectTrays() {
        int[][] madeAndHeld = {
            {Integer.MIN_VALUE, 2}, {-1, 2}, {0, 2}, {1, 2}, {2, 2}, {3, 3}, {39, 39}, {40, 40}, {41, 40},
            {Integer.MAX_VALUE, 40}};
        for (int[] pair : madeAndHeld) {
            SorterSteps s = new SorterSteps(pair[0], 1);
            Check.due("1: trays of " + pair[0], pair[1], s.count(0));
            Check.due("1: empty trays of " + pair[0], pair[1], s.count(2));
            Check.due("1: the last tray of " + pair[0], 0, s.tray(pair[1] - 1));
        }
    }

    /** Rounds are seen in how often an item passes its full chute before the overflow takes it. */
    private static void newObjectRounds() {
        int[][] toldAndHeld = {
            {Integer.MIN_VALUE, 0}, {-1, 0}, {0, 0}, {1, 1}, {8, 8}, {9, 9}, {10, 9}, {Integer.MAX_VALUE, 9}};
        for (int[] pair : toldAndHeld) {
            SorterSteps s = Check.sorter(4, pair[0], 1);
            s.chute(1, true);
            s.induct(1, 0, 1);
            int passes = 0;
            s.step(2);
            for (passes = 1; passes < 20 && s.told(1, 0) == 1; passes++) {
                s.step(4);
            }
            Check.due("1: passes with rounds " + pair[0], pair[1] + 1, passes);
            Check.due("1: state with rounds " + pair[0], 4, s.told(1, 0));
            Check.due("1: rounds in out with rounds " + pair[0], pair[1] + 1, s.out(0, 3));
        }
    }

    private static void newObjectIsEmpty() {
        SorterSteps s = new SorterSteps(5, 2);
        Check.due("1: items", 0, s.count(1));
        Check.due("1: steps", 0, s.count(3));
        Check.due("1: out", 0, s.count(5));
        Check.due("1: jammed", 0, s.count(6));
        Check.due("1: doubt", -1, s.doubt(0));
        Check.argument("1: out(0, 0)", () -> s.out(0, 0));
        Check.due("1: chute 1 is not full", false, s.chute(1, false));
        Check.due("1: chute 2 is not full", false, s.chute(2, false));
    }

    private static void itemNumbers() {
        SorterSteps s = new SorterSteps(5, 2);
        Check.due("2: the first", 1, s.item(1));
        Check.due("2: the second", 2, s.item(100));
        Check.argument("2: too short", () -> s.item(0));
        Check.due("2: a refused one takes no number", 3, s.item(50));
        Check.due("2: length of 1", 1, s.told(1, 3));
        Check.due("2: length of 2", 100, s.told(2, 3));
        Check.due("2: length of 3", 50, s.told(3, 3));
        Check.due("2: a new one is NEW", 0, s.told(3, 0));
    }

    private static void itemLengths() {
        SorterSteps s = new SorterSteps(5, 2);
        for (int length : new int[] {0, -1, 101, Integer.MIN_VALUE, Integer.MAX_VALUE}) {
            Check.argument("2: item(" + length + ")", () -> s.item(length));
        }
        Check.due("2: none came", 0, s.count(1));
    }

    private static void sixtyItems() {
        SorterSteps s = new SorterSteps(5, 2);
        for (int k = 1; k <= 60; k++) {
            Check.due("2: item " + k, k, s.item(10));
        }
        Check.exception("2: the 61st", UnsupportedOperationException.class, () -> s.item(10));
        Check.argument("2: the 61st with a wrong length", () -> s.item(0));
        Check.due("2: sixty stay", 60, s.count(1));
        Check.due("2: the last is there", 10, s.told(60, 3));
    }

    private static void inductPutsOntoTray() {
        SorterSteps s = Check.sorter(8, 1, 3);
        Check.due("3: at 0", 0, s.induct(2, 0, 3));
        Check.due("3: at 1", 1, s.induct(1, 1, 0));
        Check.due("3: tray 0", 2, s.tray(0));
        Check.due("3: tray 1", 1, s.tray(1));
        Check.due("3: on a tray", 1, s.told(2, 0));
        Check.due("3: code", 3, s.told(2, 1));
        Check.due("3: tray of 1", 1, s.told(1, 4));
        Check.due("3: no code", 0, s.told(1, 1));
    }

    private static void inductAfterSteps() {
        SorterSteps s = Check.sorter(5, 1, 3);
        s.step(1);
        Check.due("3: the last tray is at 0", 4, s.induct(1, 0, 0));
        Check.due("3: tray 0 is at 1", 0, s.induct(2, 1, 0));
        s.step(2);
        Check.due("3: after three steps", 2, s.induct(3, 0, 1));
    }

    private static void inductWrongArguments() {
        SorterSteps s = Check.sorter(5, 1, 1);
        for (int item : new int[] {0, -1, 2, 60, 61, Integer.MIN_VALUE, Integer.MAX_VALUE}) {
            Check.argument("3: item " + item, () -> s.induct(item, 0, 0));
        }
        for (int at : new int[] {-1, 2, Integer.MIN_VALUE, Integer.MAX_VALUE}) {
            Check.argument("3: induct " + at, () -> s.induct(1, at, 0));
        }
        for (int code : new int[] {-1, 3, 6, 7, Integer.MIN_VALUE, Integer.MAX_VALUE}) {
            Check.argument("3: code " + code, () -> s.induct(1, 0, code));
        }
        Check.due("3: the last chute is a code", 0, s.induct(1, 0, 2));
    }

    private static void inductWrongStates() {
        SorterSteps s = Check.sorter(5, 1, 4);
        s.induct(1, 0, 0);
        Check.state("3: on a tray already", () -> s.induct(1, 1, 0));
        Check.state("3: tray not empty", () -> s.induct(2, 0, 0));
        s.step(5);
        Check.state("3: manual", () -> s.induct(1, 0, 0));
        s.manual(1, 1);
        Check.state("3: out", () -> s.induct(1, 0, 0));
        s.jam(2, 3);
        Check.state("3: jammed", () -> s.induct(2, 0, 0));
        Check.due("3: still NEW", 0, s.told(2, 0));
        s.retrack();
        Check.due("3: not jammed any more", 0, s.induct(2, 0, 0));
    }

    private static void inductArgumentsBeforeStates() {
        SorterSteps s = Check.sorter(5, 1, 2);
        s.induct(1, 0, 0);
        s.jam(0, 0);
        Check.argument("3: no item while jammed", () -> s.induct(3, 1, 0));
        Check.argument("3: no induct while jammed", () -> s.induct(1, 2, 0));
        Check.argument("3: no code while jammed", () -> s.induct(1, 0, 3));
    }

    private static void inductLength() {
        SorterSteps s = new SorterSteps(5, 1);
        s.item(60);
        s.item(61);
        Check.due("3: as long as the trays", 0, s.induct(1, 0, 0));
        Check.state("3: longer than 60", () -> s.induct(2, 1, 0));
        s.length(61);
        Check.due("3: on longer trays", 1, s.induct(2, 1, 0));
    }

    private static void lengthCountsLongerOnTrays() {
        SorterSteps s = new SorterSteps(5, 1);
        s.item(20);
        s.item(30);
        s.item(50);
        Check.due("4: none on trays", 0, s.length(1));
        Check.state("4: shorter trays hold", () -> s.induct(1, 0, 0));
        Check.due("4: the longest", 0, s.length(100));
        s.induct(1, 0, 0);
        s.induct(2, 1, 1);
        Check.due("4: both are longer", 2, s.length(19));
        Check.due("4: one as long, one longer", 1, s.length(20));
        Check.due("4: one longer", 1, s.length(29));
        Check.due("4: none longer", 0, s.length(30));
        s.step(1);
        Check.due("4: the one that went out is not counted", 1, s.length(1));
        Check.due("4: it stays on its tray", 1, s.told(1, 0));
    }

    private static void lengthWrong() {
        SorterSteps s = Check.sorter(5, 1, 1);
        s.length(10);
        for (int length : new int[] {0, -1, 101, Integer.MIN_VALUE, Integer.MAX_VALUE}) {
            Check.argument("4: length(" + length + ")", () -> s.length(length));
        }
        Check.due("4: the length stays", 0, s.induct(1, 0, 0));
        Check.due("4: while jammed too", 0, s.jam(3, 3) + s.length(10));
    }
}
