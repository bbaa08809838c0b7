import java.util.Random;

/** Long runs of right and wrong calls, the same ones each time, and what must hold behind each call. */
public final class RandomCallsTest {
    private static final int RUNS = 400;
    private static final int CALLS = 512;
    private static final int[] EDGES = {
        Integer.MIN_VALUE, Integer.MIN_VALUE + 1, -2, -1, 0, 1, 2, 6, 7, 9, 10, 39, 40, 59, 60, 61, 99, 100, 101,
        Integer.MAX_VALUE - 1, Integer.MAX_VALUE};

    private final Random random;
    private final int trays;
    private final SorterSteps s;

    private RandomCallsTest(long seed) {
        random = new Random(seed);
        trays = 2 + random.nextInt(random.nextBoolean() ? 8 : 39);
        s = new SorterSteps(trays, random.nextInt(4));
    }

    public static void main(String[] args) {
        for (int run = 0; run < RUNS; run++) {
            new RandomCallsTest(run).run("run " + run);
        }
        Check.end();
    }

    private void run(String name) {
        for (int call = 0; call < CALLS; call++) {
            String before = state();
            int which = random.nextInt(15);
            String where = name + ", call " + call + " of kind " + which;
            try {
                make(which);
            } catch (IllegalArgumentException | IllegalStateException | UnsupportedOperationException e) {
                Check.due(where + ": a document's exception", true, mayThrow(which, e));
                Check.due(where + ": nothing changed by " + e, before, state());
            } catch (ArrayIndexOutOfBoundsException e) {
                Check.due(where + ": only tray() may throw " + e, 12, which);
            }
            fitsTogether(where);
        }
    }

    private int any(int below, int above) {
        if (random.nextInt(12) == 0) {
            return EDGES[random.nextInt(EDGES.length)];
        }
        return below + random.nextInt(above - below + 1);
    }

    private int anyItem() {
        return any(1, Math.max(1, s.count(1)));
    }

    private int anyChute(int below) {
        return any(below, Math.max(below, s.count(4)));
    }

    private void make(int which) {
        switch (which) {
            case 0: s.item(any(1, 70)); break;
            case 1:
            case 2: s.induct(any(Math.max(1, s.count(1) - 4), s.count(1) + 1), any(0, 1), anyChute(0)); break;
            case 3: s.length(any(40, 100)); break;
            case 4: s.retry(anyItem(), any(0, 3), anyChute(0)); break;
            case 5: s.step(any(0, 3)); break;
            case 6: s.out(any(0, 5), any(0, 3)); break;
            case 7: s.chute(anyChute(1), random.nextBoolean()); break;
            case 8: s.jam(any(0, trays - 1), any(0, trays - 1)); break;
            case 9: s.doubt(any(0, 5)); break;
            case 10: s.found(random.nextBoolean() ? s.doubt(0) : anyItem(), random.nextInt(4) > 0); break;
            case 11: s.retrack(); break;
            case 12: s.tray(any(0, trays - 1)); break;
            case 13: s.manual(anyItem(), anyChute(1)); break;
            default: s.told(anyItem(), any(0, 6)); s.count(any(0, 6)); break;
        }
    }

    private static boolean mayThrow(int which, RuntimeException e) {
        boolean argument = e.getClass() == IllegalArgumentException.class;
        boolean state = e.getClass() == IllegalStateException.class;
        switch (which) {
            case 0: return argument || e.getClass() == UnsupportedOperationException.class;
            case 3:
            case 6:
            case 7:
            case 14: return argument;
            case 9:
            case 12: return false;
            case 11: return state;
            default: return argument || state;
        }
    }

    /** All that can be asked, but for the chutes: to ask them is to tell them. */
    private String state() {
        StringBuilder text = new StringBuilder();
        for (int what = 0; what < 7; what++) {
            text.append(s.count(what)).append(' ');
        }
        for (int item = 1; item <= s.count(1); item++) {
            text.append("/ ");
            for (int what = 0; what < 7; what++) {
                text.append(s.told(item, what)).append(' ');
            }
        }
        text.append("left ");
        for (int i = 0; i < leftCount(); i++) {
            for (int what = 0; what < 4; what++) {
                text.append(s.out(i, what)).append(' ');
            }
        }
        text.append("doubted ");
        for (int i = 0; s.doubt(i) != -1; i++) {
            text.append(s.doubt(i)).append(' ');
        }
        return text.toString();
    }

    /** An item leaves its tray once, and is NEW or on a tray before that. */
    private int leftCount() {
        int left = 0;
        for (int item = 1; item <= s.count(1); item++) {
            left += s.told(item, 0) > 1 ? 1 : 0;
        }
        return left;
    }

    private void fitsTogether(String where) {
        int onTrays = 0;
        for (int item = 1; item <= s.count(1); item++) {
            int tray = s.told(item, 4);
            int position = -1;
            if (s.told(item, 0) == 1) {
                onTrays++;
                position = (tray + s.count(3)) % trays;
                Check.due(where + ": on its tray", item, s.tray(tray));
            } else {
                Check.due(where + ": on no tray", -1, tray);
            }
            Check.due(where + ": position", position, s.told(item, 5));
        }
        Check.due(where + ": empty trays", trays - onTrays, s.count(2));
        int left = leftCount();
        Check.exception(where + ": no more left", IllegalArgumentException.class, () -> s.out(left, 0));
        Check.due(where + ": doubts only while jammed", true, s.count(6) == 1 || s.doubt(0) == -1);
        for (int i = 0; s.doubt(i) != -1; i++) {
            Check.due(where + ": doubted on a tray", 1, s.told(s.doubt(i), 0));
        }
    }
}
