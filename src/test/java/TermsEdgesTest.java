/** The document's section 'Terms' and the limit above it: a test for each sentence that names a boundary case. */
public final class TermsEdgesTest {
    public static void main(String[] args) {
        Check.sentence("An object is used for at most 512 calls", TermsEdgesTest::fiveHundredAndTwelveCalls);
        Check.sentence("at first tray k is at position k", TermsEdgesTest::firstPositions);
        Check.sentence("with each STEP each tray goes to the next position, the one at the last goes to 0",
            TermsEdgesTest::positionsGoRound);
        Check.sentence("ITEMS are numbered 1, 2, .. (at most 60, as they come)", TermsEdgesTest::sixtyItems);
        Check.sentence("a length 1 .. 100", TermsEdgesTest::lengths);
        Check.sentence("INDUCTS stand at positions 0 and 1 (two)", TermsEdgesTest::twoInducts);
        Check.sentence("CHUTES 1 .. 6 at positions 2, 4, 6, .. (those that are less than the number of trays)",
            TermsEdgesTest::chutesOfEachLoop);
        Check.sentence("An item is 0 NEW, 1 ON A TRAY, 2 OUT (at a chute), 3 MANUAL (in the manual lane), 4 in the "
            + "OVERFLOW, 5 LOST.", TermsEdgesTest::states);
        Check.sentence("0 as long as it was not read", TermsEdgesTest::codeIsNoneUntilRead);
        Check.sentence("A STEP, behind the trays have gone on", TermsEdgesTest::traysGoOnFirst);
        Check.sentence("for each chute in order, the tray at it", TermsEdgesTest::chutesInOrder);
        Check.sentence("an item with its code goes OUT there", TermsEdgesTest::onlyItsOwnChute);
        Check.sentence("if it is not FULL", TermsEdgesTest::fullAndNotAnyMore);
        Check.sentence("else the item has one ROUND more, and goes to the OVERFLOW if it has more than the told "
            + "rounds then", TermsEdgesTest::overflowBeyondTheRounds);
        Check.sentence("Last the tray at position 0", TermsEdgesTest::positionZeroIsLast);
        Check.sentence("one fewer, and its code is what is told with them when none is left",
            TermsEdgesTest::retriesRunOut);
        Check.sentence("without retries it goes MANUAL", TermsEdgesTest::withoutRetries);
        Check.sentence("(the first one, those behind it, up to the second one, round the loop)",
            TermsEdgesTest::eachJamOfALoop);
        Check.sentence("upward by positions from the first one on", TermsEdgesTest::doubtsUpward);
        Check.sentence("while the sorter is JAMMED no step is made", TermsEdgesTest::noStepWhileJammed);
        Check.sentence("A doubted item may be found again or not", TermsEdgesTest::foundOrNot);
        Check.sentence("TRACKING ANEW ends the jam", TermsEdgesTest::trackingEndsTheJam);
        Check.sentence("items that were doubted and not found are LOST, and their trays empty",
            TermsEdgesTest::lostLeaveTheirTrays);
        Check.sentence("The sorter counts its steps from 0 on.", TermsEdgesTest::stepsFromZero);
        Check.end();
    }

    private static void fiveHundredAndTwelveCalls() {
        SorterSteps s = new SorterSteps(7, 0);
        for (int call = 1; call <= 511; call++) {
            Check.due("step(100), call " + call, 0, s.step(100));
        }
        Check.due("call 512, count(3)", 51100, s.count(3));
    }

    private static void firstPositions() {
        for (int trays : new int[] {2, 3, 40}) {
            SorterSteps s = Check.sorter(trays, 0, 2);
            for (int k = 0; k < 2; k++) {
                Check.due("the tray at " + k, k, s.induct(k + 1, k, 0));
                Check.due("its position", k, s.told(k + 1, 5));
            }
        }
        SorterSteps s = Check.filled(40);
        s.step(1);
        for (int k = 0; k < 40; k++) {
            Check.due("tray " + k + " after 40 steps is where it was", k, s.told(s.tray(k), 5));
        }
    }

    private static void positionsGoRound() {
        for (int trays : new int[] {2, 3, 12, 39, 40}) {
            SorterSteps s = Check.sorter(trays, 0, 1);
            s.induct(1, 0, 0);
            s.retry(1, 9, 0);
            for (int steps = 1; steps <= 3 * trays; steps++) {
                s.step(1);
                Check.due("position after " + steps + " of " + trays, steps % trays, s.told(1, 5));
                Check.due("its tray stays", 0, s.told(1, 4));
            }
            SorterSteps t = Check.sorter(trays, 0, 1);
            t.step(1);
            Check.due("the last tray goes to 0 of " + trays, trays - 1, t.induct(1, 0, 0));
        }
    }

    private static void sixtyItems() {
        SorterSteps s = new SorterSteps(2, 0);
        for (int number = 1; number <= 60; number++) {
            Check.argument("not there yet: " + number, () -> s.told(s.count(1) + 1, 0));
            Check.due("the next number", number, s.item(1 + number % 3));
        }
        Check.exception("one more", UnsupportedOperationException.class, () -> s.item(1));
        for (int number = 1; number <= 60; number++) {
            Check.due("length of " + number, 1 + number % 3, s.told(number, 3));
        }
    }

    private static void lengths() {
        for (int length : new int[] {1, 2, 99, 100}) {
            SorterSteps s = new SorterSteps(2, 0);
            s.item(length);
            Check.due("its length", length, s.told(1, 3));
        }
    }

    private static void twoInducts() {
        SorterSteps s = Check.sorter(40, 0, 3);
        Check.due("at 0", 0, s.induct(1, 0, 0));
        Check.due("at 1", 1, s.induct(2, 1, 0));
        for (int at = 2; at < 40; at++) {
            int none = at;
            Check.argument("none at " + at, () -> s.induct(3, none, 0));
        }
    }

    private static void chutesOfEachLoop() {
        for (int trays = 2; trays <= 40; trays++) {
            for (int chute = 1; chute <= 6; chute++) {
                SorterSteps s = Check.sorter(trays, 0, 1);
                String where = "chute " + chute + " of " + trays + " trays";
                int code = chute;
                if (2 * chute < trays) {
                    s.induct(1, 0, chute);
                    Check.due(where + ", one before it", 0, s.step(2 * chute - 1));
                    Check.due(where + ", at it", 1, s.step(1));
                } else {
                    Check.argument(where, () -> s.induct(1, 0, code));
                }
            }
        }
    }

    private static void states() {
        SorterSteps s = Check.inEachState();
        for (int state = 0; state <= 5; state++) {
            Check.due("item " + (state + 1), state, s.told(state + 1, 0));
        }
    }

    private static void codeIsNoneUntilRead() {
        SorterSteps s = Check.sorter(6, 0, 2);
        Check.due("NEW", 0, s.told(1, 1));
        s.induct(1, 0, 0);
        s.retry(1, 1, 2);
        Check.due("told with retries", 0, s.told(1, 1));
        s.step(5);
        Check.due("one before position 0", 0, s.told(1, 1));
        s.step(1);
        Check.due("read", 2, s.told(1, 1));
        s.step(1);
        s.induct(2, 0, 2);
        Check.due("read at the induct", 2, s.told(2, 1));
    }

    /** An item that stands at its chute, or at position 0, has to come there by a step first. */
    private static void traysGoOnFirst() {
        SorterSteps s = Check.sorter(6, 1, 1);
        s.chute(1, true);
        s.induct(1, 0, 1);
        s.step(2);
        s.chute(1, false);
        Check.due("no step", 0, s.step(0));
        Check.due("it went on from its chute", 0, s.step(5));
        Check.due("it comes there again", 1, s.step(1));
        SorterSteps t = Check.sorter(6, 0, 1);
        t.induct(1, 0, 0);
        Check.due("put on at position 0", 0, t.step(0));
        Check.due("round the loop but one", 0, t.step(5));
        Check.due("round the loop", 1, t.step(1));
    }

    /** A loop of 13 in whose step 12 an item comes to each chute, and item 7 without a code to position 0. */
    private static SorterSteps leavingInOneStep(int items) {
        SorterSteps s = Check.sorter(13, 0, items);
        if (items > 6) {
            s.induct(7, 1, 0);
        }
        for (int chute = 6; chute >= 1; chute--) {
            s.induct(chute, 0, chute);
            s.step(chute > 1 ? 2 : 1);
        }
        return s;
    }

    private static void chutesInOrder() {
        SorterSteps s = leavingInOneStep(6);
        Check.due("six leave", 6, s.step(1));
        SorterSteps t = leavingInOneStep(6);
        t.chute(1, true);
        t.chute(4, true);
        Check.due("two of them to the overflow", 6, t.step(1));
        for (int chute = 1; chute <= 6; chute++) {
            Check.due("all out", chute, s.out(chute - 1, 0));
            Check.due("its chute", chute, s.out(chute - 1, 1));
            Check.due("two to the overflow", chute, t.out(chute - 1, 0));
            Check.due("its chute or the overflow", chute == 1 || chute == 4 ? -1 : chute, t.out(chute - 1, 1));
        }
    }

    private static void onlyItsOwnChute() {
        SorterSteps s = Check.sorter(13, 0, 1);
        for (int chute = 1; chute <= 5; chute++) {
            s.chute(chute, true);
        }
        s.induct(1, 0, 6);
        Check.due("past five full ones", 0, s.step(11));
        Check.due("no rounds by them", 0, s.told(1, 2));
        Check.due("at its own", 1, s.step(1));
    }

    private static void fullAndNotAnyMore() {
        SorterSteps s = Check.sorter(6, 3, 1);
        s.chute(2, true);
        s.induct(1, 0, 2);
        Check.due("full", 0, s.step(4));
        Check.due("still full", 0, s.step(6));
        s.chute(2, false);
        Check.due("not full", 1, s.step(6));
        Check.due("OUT", 2, s.told(1, 0));
        Check.due("two rounds", 2, s.told(1, 2));
    }

    private static void overflowBeyondTheRounds() {
        for (int rounds = 0; rounds <= 9; rounds++) {
            SorterSteps s = Check.sorter(3, rounds, 1);
            s.chute(1, true);
            s.induct(1, 1, 1);
            Check.due("as many as told, " + rounds, 0, rounds == 0 ? s.step(0) : s.step(1 + 3 * (rounds - 1)));
            Check.due("rounds", rounds, s.told(1, 2));
            Check.due("on its tray", 1, s.told(1, 0));
            Check.due("one more", 1, s.step(rounds == 0 ? 1 : 3));
            Check.due("rounds then", rounds + 1, s.told(1, 2));
            Check.due("OVERFLOW", 4, s.told(1, 0));
            Check.due("its tray is empty", 3, s.count(2));
        }
    }

    private static void positionZeroIsLast() {
        SorterSteps s = leavingInOneStep(7);
        Check.due("seven leave", 7, s.step(1));
        Check.due("behind all chutes", 7, s.out(6, 0));
        Check.due("to the manual lane", 0, s.out(6, 1));
        Check.due("in the same step", 12, s.out(6, 2));
    }

    private static void retriesRunOut() {
        for (int retries = 1; retries <= 9; retries++) {
            SorterSteps s = Check.sorter(4, 0, 1);
            s.induct(1, 0, 0);
            s.retry(1, retries, 1);
            for (int left = retries - 1; left >= 0; left--) {
                Check.due("it stays on its tray", 0, s.step(4));
                Check.due("one fewer", left, s.told(1, 6));
                Check.due("its code", left == 0 ? 1 : 0, s.told(1, 1));
            }
            Check.due("to its chute", 1, s.step(2));
        }
    }

    private static void withoutRetries() {
        SorterSteps s = Check.sorter(4, 0, 3);
        s.induct(1, 0, 0);
        s.induct(2, 1, 0);
        s.retry(2, 0, 1);
        Check.due("none told, and zero told", 2, s.step(4));
        Check.due("none told", 3, s.told(1, 0));
        Check.due("zero told", 3, s.told(2, 0));
        s.induct(3, 0, 0);
        s.retry(3, 1, 0);
        Check.due("the last one brings no code", 0, s.step(4));
        Check.due("none left", 1, s.step(4));
        Check.due("MANUAL", 3, s.told(3, 0));
    }

    private static void eachJamOfALoop() {
        for (int trays : new int[] {2, 5, 40}) {
            for (int from = 0; from < trays; from++) {
                for (int to = 0; to < trays; to++) {
                    int between = (to - from + trays) % trays + 1;
                    SorterSteps s = Check.filled(trays);
                    Check.due("jam(" + from + ", " + to + ") of " + trays, between, s.jam(from, to));
                    Check.due("the first one", from + 1, s.doubt(0));
                    Check.due("the second one", to + 1, s.doubt(between - 1));
                    Check.due("none behind it", -1, s.doubt(between));
                }
            }
        }
    }

    private static void doubtsUpward() {
        for (int from = 0; from < 40; from++) {
            SorterSteps s = Check.filled(40);
            s.jam(from, (from + 39) % 40);
            for (int i = 0; i < 40; i++) {
                Check.due("from " + from + ", doubt(" + i + ")", (from + i) % 40 + 1, s.doubt(i));
            }
        }
    }

    private static void noStepWhileJammed() {
        SorterSteps s = Check.sorter(6, 0, 1);
        s.induct(1, 0, 1);
        s.jam(4, 5);
        for (int n : new int[] {0, 1, 100}) {
            Check.state("step(" + n + ")", () -> s.step(n));
        }
        Check.due("it did not move", 0, s.told(1, 5));
        Check.due("no steps", 0, s.count(3));
    }

    private static void foundOrNot() {
        SorterSteps s = Check.filled(4);
        s.jam(0, 3);
        s.found(1, true);
        s.found(2, true);
        s.found(2, false);
        s.found(3, false);
        s.retrack();
        int[] states = {1, 5, 5, 5};
        for (int item = 1; item <= 4; item++) {
            Check.due("item " + item, states[item - 1], s.told(item, 0));
        }
    }

    private static void trackingEndsTheJam() {
        SorterSteps s = Check.filled(4);
        s.jam(0, 0);
        s.retrack();
        Check.due("not jammed", 0, s.count(6));
        Check.due("a step is made", 0, s.step(1));
        Check.due("no item is doubted", -1, s.doubt(0));
        Check.due("it may jam again", 1, s.jam(2, 2));
    }

    private static void lostLeaveTheirTrays() {
        SorterSteps s = Check.filled(40);
        s.jam(0, 39);
        s.found(40, true);
        Check.due("all but one", 39, s.retrack());
        for (int item = 1; item <= 39; item++) {
            Check.due("LOST", 5, s.told(item, 0));
            Check.due("on no tray", -1, s.told(item, 4));
        }
        Check.due("empty trays", 39, s.count(2));
        Check.due("the found one stays on its tray", 40, s.tray(s.told(40, 4)));
    }

    private static void stepsFromZero() {
        SorterSteps s = new SorterSteps(2, 0);
        Check.due("at first", 0, s.count(3));
        s.step(0);
        Check.due("none made", 0, s.count(3));
        s.step(1);
        Check.due("one", 1, s.count(3));
        s.step(100);
        Check.due("all together", 101, s.count(3));
    }
}
