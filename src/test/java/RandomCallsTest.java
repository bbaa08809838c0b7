import java.util.Arrays;
import java.util.Random;

/**
 * Long runs of right and wrong calls, the same ones each time: each answer and each exception has to be PlainSorter's.
 * A run has the document's 512 calls, so that it asks nothing that is not promised.
 */
public final class RandomCallsTest {
    private static final int RUNS = 3000;
    private static final int CALLS = 512;
    private static final String[] KINDS = {"item", "induct", "length", "retry", "step", "out", "chute", "jam", "doubt",
        "found", "retrack", "manual", "tray", "told", "count"};
    /** How often each kind of call comes in a run: an even mix, a busy loop, many jams. */
    private static final int[][] WEIGHTS = {
        {10, 18, 1, 6, 24, 10, 4, 2, 4, 6, 8, 3, 5, 14, 8},
        {14, 40, 2, 8, 30, 6, 4, 1, 2, 3, 10, 2, 4, 14, 8},
        {12, 30, 1, 4, 20, 8, 2, 8, 12, 16, 12, 4, 6, 12, 5}};
    private static final int[] EDGES = {
        Integer.MIN_VALUE, Integer.MIN_VALUE + 1, -2, -1, 0, 1, 2, 3, 5, 6, 7, 9, 10, 39, 40, 59, 60, 61, 99, 100, 101,
        Integer.MAX_VALUE - 1, Integer.MAX_VALUE};

    private final Random random;
    private final int[] weights;
    private final int longestStep;
    private final SorterSteps sorter;
    private final PlainSorter plain;

    private RandomCallsTest(long seed) {
        random = new Random(seed);
        int trays = random.nextBoolean() ? 1 + random.nextInt(9) : random.nextInt(43);
        int rounds = random.nextInt(4) == 0 ? random.nextInt(13) - 1 : random.nextInt(3);
        weights = WEIGHTS[random.nextInt(WEIGHTS.length)];
        longestStep = random.nextInt(3) == 0 ? 20 : 3;
        sorter = new SorterSteps(trays, rounds);
        plain = new PlainSorter(trays, rounds);
    }

    public static void main(String[] args) {
        for (int seed = 0; seed < RUNS; seed++) {
            RandomCallsTest run = new RandomCallsTest(seed);
            boolean alike = true;
            for (int call = 1; alike && call <= CALLS; call++) {
                alike = run.makeOneCall("run " + seed + ", call " + call + ": ");
            }
        }
        Check.end();
    }

    /** Whether both answer alike; once they do not, what follows tells nothing new. */
    private boolean makeOneCall(String where) {
        int kind = anyKind();
        int[] told = anyArguments(kind);
        String want = answer(() -> onPlain(kind, told));
        String got = answer(() -> onSorter(kind, told));
        Check.due(where + KINDS[kind] + Arrays.toString(told), want, got);
        return want.equals(got);
    }

    private static String answer(Check.Call call) {
        try {
            return Long.toString(call.answer());
        } catch (RuntimeException e) {
            return "throws." + e.getClass().getSimpleName();
        }
    }

    private int anyKind() {
        int chosen = random.nextInt(Arrays.stream(weights).sum());
        int kind = 0;
        while (chosen >= weights[kind]) {
            chosen -= weights[kind];
            kind++;
        }
        return kind;
    }

    private int any(int lowest, int highest) {
        if (highest < lowest || random.nextInt(20) == 0) {
            return EDGES[random.nextInt(EDGES.length)];
        }
        return lowest + random.nextInt(highest - lowest + 1);
    }

    private int anyItem() {
        return any(1, plain.count(1));
    }

    /** Mostly one in this state, from a random one on; the calls would nearly all be refused otherwise. */
    private int anyItemInState(int state) {
        int items = plain.count(1);
        if (items == 0 || random.nextInt(5) == 0) {
            return anyItem();
        }
        int first = random.nextInt(items);
        for (int k = 0; k < items; k++) {
            int number = 1 + (first + k) % items;
            if (plain.told(number, 0) == state) {
                return number;
            }
        }
        return anyItem();
    }

    private int anyDoubtedItem() {
        int doubted = 0;
        while (plain.doubt(doubted) != -1) {
            doubted++;
        }
        return doubted == 0 || random.nextInt(5) == 0 ? anyItem() : plain.doubt(random.nextInt(doubted));
    }

    private int anyPlace() {
        return any(0, plain.count(0) - 1);
    }

    private int anyCode() {
        return random.nextInt(3) == 0 ? 0 : any(Math.min(1, plain.count(4)), plain.count(4));
    }

    private int anyTruth() {
        return random.nextInt(3) > 0 ? 1 : 0;
    }

    private int[] anyArguments(int kind) {
        switch (KINDS[kind]) {
            case "item": return new int[] {random.nextInt(4) == 0 ? any(55, 65) : any(1, 55)};
            case "induct": return new int[] {anyItemInState(0), any(0, 1), anyCode()};
            case "length": return new int[] {random.nextInt(3) == 0 ? any(1, 55) : any(55, 65)};
            case "retry": return new int[] {anyItemInState(1), any(0, 3), anyCode()};
            case "step": return new int[] {any(0, longestStep)};
            case "out": return new int[] {any(0, plain.count(1) / 3), any(0, 3)};
            case "chute": return new int[] {any(1, plain.count(4)), anyTruth()};
            case "jam": return new int[] {anyPlace(), anyPlace()};
            case "doubt": return new int[] {any(0, 3)};
            case "found": return new int[] {anyDoubtedItem(), anyTruth()};
            case "retrack": return new int[] {};
            case "manual": return new int[] {anyItemInState(random.nextBoolean() ? 3 : 5), any(1, plain.count(4))};
            case "tray": return new int[] {anyPlace()};
            case "told": return new int[] {random.nextBoolean() ? anyItem() : anyItemInState(1), any(0, 6)};
            default: return new int[] {any(0, 6)};
        }
    }

    private long onPlain(int kind, int[] told) {
        switch (KINDS[kind]) {
            case "item": return plain.item(told[0]);
            case "induct": return plain.induct(told[0], told[1], told[2]);
            case "length": return plain.length(told[0]);
            case "retry": plain.retry(told[0], told[1], told[2]); return 0;
            case "step": return plain.step(told[0]);
            case "out": return plain.out(told[0], told[1]);
            case "chute": return Check.truth(plain.chute(told[0], told[1] == 1));
            case "jam": return plain.jam(told[0], told[1]);
            case "doubt": return plain.doubt(told[0]);
            case "found": return plain.found(told[0], told[1] == 1);
            case "retrack": return plain.retrack();
            case "manual": return Check.truth(plain.manual(told[0], told[1]));
            case "tray": return plain.tray(told[0]);
            case "told": return plain.told(told[0], told[1]);
            default: return plain.count(told[0]);
        }
    }

    private long onSorter(int kind, int[] told) {
        switch (KINDS[kind]) {
            case "item": return sorter.item(told[0]);
            case "induct": return sorter.induct(told[0], told[1], told[2]);
            case "length": return sorter.length(told[0]);
            case "retry": sorter.retry(told[0], told[1], told[2]); return 0;
            case "step": return sorter.step(told[0]);
            case "out": return sorter.out(told[0], told[1]);
            case "chute": return Check.truth(sorter.chute(told[0], told[1] == 1));
            case "jam": return sorter.jam(told[0], told[1]);
            case "doubt": return sorter.doubt(told[0]);
            case "found": return sorter.found(told[0], told[1] == 1);
            case "retrack": return sorter.retrack();
            case "manual": return Check.truth(sorter.manual(told[0], told[1]));
            case "tray": return sorter.tray(told[0]);
            case "told": return sorter.told(told[0], told[1]);
            default: return sorter.count(told[0]);
        }
    }
}
