/** Promises 9 to 12 (jam, doubt, found, retrack): a test for each sentence that names a boundary case. */
public final class JamEdgesTest {
    public static void main(String[] args) {
        Check.sentence("9: A jam: how many items are doubted.", JamEdgesTest::howManyDoubted);
        Check.sentence("9: IllegalArgumentException: no such positions", JamEdgesTest::jamNoPositions);
        Check.sentence("9: IllegalStateException: it is jammed", JamEdgesTest::jamJammed);
        Check.sentence("10: The i-th doubted item (those that were found, too)", JamEdgesTest::foundStayDoubted);
        Check.sentence("10: -1 if there are not so many", JamEdgesTest::doubtNotSoMany);
        Check.sentence("11: A doubted item is found, or not again: how many are not found.",
            JamEdgesTest::howManyNotFound);
        Check.sentence("11: IllegalArgumentException: no such item", JamEdgesTest::foundNoItem);
        Check.sentence("11: IllegalStateException: it is not doubted", JamEdgesTest::foundNotDoubted);
        Check.sentence("12: Tracked anew: how many items are lost by that.", JamEdgesTest::howManyLost);
        Check.sentence("12: IllegalStateException: it is not jammed", JamEdgesTest::retrackNotJammed);
        Check.end();
    }

    private static void howManyDoubted() {
        SorterSteps empty = new SorterSteps(40, 0);
        Check.due("of no items", 0, empty.jam(0, 39));
        Check.due("jammed though", 1, empty.count(6));
        Check.due("a full loop", 40, Check.filled(40).jam(0, 39));
        Check.due("a full loop from its last position on", 40, Check.filled(40).jam(39, 38));
        Check.due("one position", 1, Check.filled(40).jam(39, 39));
        Check.due("over the loop's end", 2, Check.filled(40).jam(39, 0));
        SorterSteps one = Check.sorter(6, 0, 1);
        one.induct(1, 1, 0);
        Check.due("up to just before it", 0, one.jam(2, 0));
        one.retrack();
        Check.due("up to it", 1, one.jam(2, 1));
    }

    private static void jamNoPositions() {
        for (int trays : new int[] {2, 6, 40}) {
            SorterSteps s = Check.filled(trays);
            for (int none : new int[] {-1, trays, trays + 1, 41, Integer.MIN_VALUE, Integer.MAX_VALUE}) {
                Check.argument("from " + none + " of " + trays, () -> s.jam(none, 0));
                Check.argument("to " + none + " of " + trays, () -> s.jam(0, none));
                Check.argument("both " + none + " of " + trays, () -> s.jam(none, none));
            }
            Check.due("not jammed by that", 0, s.count(6));
            Check.due("none doubted", -1, s.doubt(0));
            Check.due("the last position", 1, s.jam(trays - 1, trays - 1));
            Check.argument("before the jam", () -> s.jam(0, trays));
        }
    }

    private static void jamJammed() {
        SorterSteps s = Check.filled(6);
        s.jam(4, 5);
        s.found(5, true);
        Check.state("elsewhere", () -> s.jam(0, 3));
        Check.state("there", () -> s.jam(4, 5));
        Check.due("the first jam's doubts stay", 5, s.doubt(0));
        Check.due("no more doubts", -1, s.doubt(2));
        Check.due("what was found stays found", 1, s.retrack());
        Check.due("tracked anew", 1, s.jam(4, 5));
    }

    private static void foundStayDoubted() {
        SorterSteps s = Check.filled(6);
        s.jam(5, 1);
        int[] items = {6, 1, 2};
        for (int item : items) {
            s.found(item, true);
            for (int i = 0; i < items.length; i++) {
                Check.due("doubt(" + i + ") when " + item + " is found", items[i], s.doubt(i));
            }
        }
        Check.due("a found one may still be not found again", 1, s.found(6, false));
    }

    private static void doubtNotSoMany() {
        SorterSteps s = Check.filled(40);
        Check.due("not jammed", -1, s.doubt(0));
        s.jam(0, 39);
        Check.due("the fortieth", 40, s.doubt(39));
        for (int i : new int[] {-1, 40, 41, 60, Integer.MIN_VALUE, Integer.MAX_VALUE}) {
            Check.due("doubt(" + i + ")", -1, s.doubt(i));
        }
        s.retrack();
        Check.due("tracked anew", -1, s.doubt(0));
        s.jam(0, 39);
        Check.due("of no items", -1, s.doubt(0));
    }

    private static void howManyNotFound() {
        SorterSteps s = Check.filled(40);
        s.jam(39, 38);
        for (int item = 1; item <= 40; item++) {
            Check.due("found " + item, 40 - item, s.found(item, true));
            Check.due("found again", 40 - item, s.found(item, true));
        }
        for (int item = 1; item <= 40; item++) {
            Check.due("not again " + item, item, s.found(item, false));
            Check.due("not found twice", item, s.found(item, false));
        }
    }

    private static void foundNoItem() {
        SorterSteps none = new SorterSteps(6, 0);
        Check.argument("item 1 of none", () -> none.found(1, true));
        SorterSteps s = Check.filled(6);
        for (int jams = 0; jams < 2; jams++) {
            for (int item : new int[] {0, -1, 7, 60, 61, Integer.MIN_VALUE, Integer.MAX_VALUE}) {
                Check.argument("item " + item, () -> s.found(item, true));
                Check.argument("not again, item " + item, () -> s.found(item, false));
            }
            if (jams == 0) {
                s.jam(0, 5);
            }
        }
        Check.due("none was found by that", 6, s.retrack());
    }

    private static void foundNotDoubted() {
        SorterSteps s = Check.inEachState();
        for (int item = 1; item <= 6; item++) {
            int number = item;
            Check.state("not jammed, in state " + (item - 1), () -> s.found(number, true));
        }
        s.jam(1, 5);
        for (int item = 1; item <= 6; item++) {
            int number = item;
            Check.state("jammed elsewhere, in state " + (item - 1), () -> s.found(number, false));
        }
        s.retrack();
        s.jam(0, 0);
        Check.due("doubted", 0, s.found(2, true));
        s.retrack();
        Check.state("the jam is over", () -> s.found(2, false));
        s.jam(1, 1);
        Check.state("doubted in an earlier jam only", () -> s.found(2, true));
    }

    private static void howManyLost() {
        for (int found = 0; found <= 6; found++) {
            SorterSteps s = Check.filled(6);
            s.jam(3, 2);
            for (int item = 1; item <= found; item++) {
                s.found(item, true);
            }
            Check.due("found " + found, 6 - found, s.retrack());
            Check.due("empty trays", 6 - found, s.count(2));
            for (int i = 0; i < 6 - found; i++) {
                Check.due("out(" + i + ", 1)", -2, s.out(i, 1));
            }
            int none = 6 - found;
            Check.argument("no more rows", () -> s.out(none, 0));
        }
        SorterSteps full = Check.filled(40);
        full.jam(0, 39);
        Check.due("a full loop", 40, full.retrack());
        Check.due("all trays are empty", 40, full.count(2));
        full.jam(0, 39);
        Check.due("an empty loop", 0, full.retrack());
    }

    private static void retrackNotJammed() {
        SorterSteps s = Check.filled(6);
        Check.state("never jammed", s::retrack);
        s.jam(0, 0);
        s.retrack();
        Check.state("tracked anew already", s::retrack);
        Check.due("no more are lost", 1, s.count(2));
    }
}
