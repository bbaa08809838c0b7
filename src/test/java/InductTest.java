/** What is ordinary in promises 1 to 4: a new object, item, induct, length. */
public final class InductTest {
    public static void main(String[] args) {
        newObjectIsEmpty();
        itemNumbers();
        inductPutsOntoTray();
        inductAfterSteps();
        lengthCountsLongerOnTrays();
        Check.end();
    }

    private static void newObjectIsEmpty() {
        SorterSteps s = new SorterSteps(5, 2);
        Check.due("1: items", 0, s.count(1));
        Check.due("1: steps", 0, s.count(3));
        Check.due("1: out", 0, s.count(5));
        Check.due("1: jammed", 0, s.count(6));
        Check.due("1: doubt", -1, s.doubt(0));
        Check.argument("1: out(0, 0)", () -> s.out(0, 0));
        Check.due("1: chute 1 is not full", false, s.chute(1, false));
        Check.due("1: chute 2 is not full", false, s.chute(2, false));
    }

    private static void itemNumbers() {
        SorterSteps s = new SorterSteps(5, 2);
        Check.due("2: the first", 1, s.item(1));
        Check.due("2: the second", 2, s.item(100));
        Check.argument("2: too short", () -> s.item(0));
        Check.due("2: a refused one takes no number", 3, s.item(50));
        Check.due("2: length of 1", 1, s.told(1, 3));
        Check.due("2: length of 2", 100, s.told(2, 3));
        Check.due("2: length of 3", 50, s.told(3, 3));
        Check.due("2: a new one is NEW", 0, s.told(3, 0));
    }

    private static void inductPutsOntoTray() {
        SorterSteps s = Check.sorter(8, 1, 3);
        Check.due("3: at 0", 0, s.induct(2, 0, 3));
        Check.due("3: at 1", 1, s.induct(1, 1, 0));
        Check.due("3: tray 0", 2, s.tray(0));
        Check.due("3: tray 1", 1, s.tray(1));
        Check.due("3: on a tray", 1, s.told(2, 0));
        Check.due("3: code", 3, s.told(2, 1));
        Check.due("3: tray of 1", 1, s.told(1, 4));
        Check.due("3: no code", 0, s.told(1, 1));
    }

    private static void inductAfterSteps() {
        SorterSteps s = Check.sorter(5, 1, 3);
        s.step(1);
        Check.due("3: the last tray is at 0", 4, s.induct(1, 0, 0));
        Check.due("3: tray 0 is at 1", 0, s.induct(2, 1, 0));
        s.step(2);
        Check.due("3: after three steps", 2, s.induct(3, 0, 1));
    }

    private static void lengthCountsLongerOnTrays() {
        SorterSteps s = new SorterSteps(5, 1);
        s.item(20);
        s.item(30);
        s.item(50);
        Check.due("4: none on trays", 0, s.length(1));
        Check.state("4: shorter trays hold", () -> s.induct(1, 0, 0));
        Check.due("4: the longest", 0, s.length(100));
        s.induct(1, 0, 0);
        s.induct(2, 1, 1);
        Check.due("4: both are longer", 2, s.length(19));
        Check.due("4: one as long, one longer", 1, s.length(20));
        Check.due("4: one longer", 1, s.length(29));
        Check.due("4: none longer", 0, s.length(30));
        s.step(1);
        Check.due("4: the one that went out is not counted", 1, s.length(1));
        Check.due("4: it stays on its tray", 1, s.told(1, 0));
    }
}
