import java.util.ArrayList;
import java.util.Collections;
import java.util.HashSet;
import java.util.List;
import java.util.Set;

/**
 * The document once more, as plainly as it can be written and without a thought for room: what RandomCallsTest holds
 * SorterSteps against. The trays really move here, and what an item is, is looked for each time.
 */
final class PlainSorter {
    private static final class Item {
        int length;
        int state;
        int code;
        int rounds;
        int tray = -1;
        int retries;
        int codeThen;
    }

    /** The trays' numbers, by position. */
    private final List<Integer> loop = new ArrayList<>();
    private final int told;
    private final List<Item> items = new ArrayList<>();
    private final List<int[]> rows = new ArrayList<>();
    private final Set<Integer> full = new HashSet<>();
    private final List<Integer> doubts = new ArrayList<>();
    private final Set<Integer> found = new HashSet<>();
    private int trayLength = 60;
    private int steps;
    private boolean jammed;

    PlainSorter(int trays, int rounds) {
        for (int tray = 0; tray < (trays < 2 ? 2 : trays > 40 ? 40 : trays); tray++) {
            loop.add(tray);
        }
        told = rounds < 0 ? 0 : rounds > 9 ? 9 : rounds;
    }

    int item(int length) {
        argument(length >= 1 && length <= 100);
        if (items.size() == 60) {
            throw new UnsupportedOperationException();
        }
        Item item = new Item();
        item.length = length;
        items.add(item);
        return items.size();
    }

    int induct(int item, int at, int code) {
        argument(isItem(item) && (at == 0 || at == 1) && (code == 0 || isChute(code)));
        Item put = items.get(item - 1);
        state(put.state == 0 && tray(loop.get(at)) == 0 && !jammed && put.length <= trayLength);
        put.state = 1;
        put.tray = loop.get(at);
        put.code = code;
        return put.tray;
    }

    int length(int length) {
        argument(length >= 1 && length <= 100);
        trayLength = length;
        return (int) items.stream().filter(item -> item.state == 1 && item.length > length).count();
    }

    void retry(int item, int retries, int code) {
        argument(isItem(item) && retries >= 0 && retries <= 9 && (code == 0 || isChute(code)));
        Item read = items.get(item - 1);
        state(read.state == 1 && read.code == 0);
        read.retries = retries;
        read.codeThen = code;
    }

    int step(int n) {
        argument(n >= 0 && n <= 100);
        state(!jammed);
        int before = rows.size();
        for (int k = 0; k < n; k++) {
            steps++;
            Collections.rotate(loop, 1);
            for (int chute = 1; isChute(chute); chute++) {
                passChute(chute, tray(loop.get(2 * chute)));
            }
            readAgain(tray(loop.get(0)));
        }
        return rows.size() - before;
    }

    private void passChute(int chute, int number) {
        if (number == 0 || items.get(number - 1).code != chute) {
            return;
        }
        if (!full.contains(chute)) {
            leave(number, 2, chute);
        } else if (++items.get(number - 1).rounds > told) {
            leave(number, 4, -1);
        }
    }

    private void readAgain(int number) {
        if (number == 0 || items.get(number - 1).code != 0) {
            return;
        }
        Item item = items.get(number - 1);
        if (item.retries == 0) {
            leave(number, 3, 0);
        } else if (--item.retries == 0) {
            item.code = item.codeThen;
        }
    }

    private void leave(int number, int state, int where) {
        Item item = items.get(number - 1);
        item.state = state;
        item.tray = -1;
        rows.add(new int[] {number, where, steps, item.rounds});
    }

    int out(int i, int what) {
        argument(i >= 0 && i < rows.size() && what >= 0 && what <= 3);
        return rows.get(i)[what];
    }

    boolean chute(int chute, boolean isFull) {
        argument(isChute(chute));
        return isFull ? !full.add(chute) : full.remove(chute);
    }

    int jam(int from, int to) {
        argument(isPlace(from) && isPlace(to));
        state(!jammed);
        jammed = true;
        int position = from;
        while (true) {
            int number = tray(loop.get(position));
            if (number != 0) {
                doubts.add(number);
            }
            if (position == to) {
                return doubts.size();
            }
            position = (position + 1) % loop.size();
        }
    }

    int doubt(int i) {
        return i >= 0 && i < doubts.size() ? doubts.get(i) : -1;
    }

    int found(int item, boolean is) {
        argument(isItem(item));
        state(doubts.contains(item));
        found.remove(item);
        if (is) {
            found.add(item);
        }
        return doubts.size() - found.size();
    }

    int retrack() {
        state(jammed);
        int before = rows.size();
        for (int number : doubts) {
            if (!found.contains(number)) {
                leave(number, 5, -2);
            }
        }
        doubts.clear();
        found.clear();
        jammed = false;
        return rows.size() - before;
    }

    boolean manual(int item, int chute) {
        argument(isItem(item) && isChute(chute));
        Item carried = items.get(item - 1);
        state(carried.state == 3 || carried.state == 5);
        if (full.contains(chute)) {
            return false;
        }
        carried.state = 2;
        return true;
    }

    int tray(int tray) {
        if (!isPlace(tray)) {
            throw new ArrayIndexOutOfBoundsException();
        }
        for (int number = 1; number <= items.size(); number++) {
            if (items.get(number - 1).tray == tray) {
                return number;
            }
        }
        return 0;
    }

    int told(int item, int what) {
        argument(isItem(item) && what >= 0 && what <= 6);
        Item asked = items.get(item - 1);
        int[] answers = {asked.state, asked.code, asked.rounds, asked.length, asked.tray, loop.indexOf(asked.tray),
            asked.retries};
        return answers[what];
    }

    int count(int what) {
        int onTrays = (int) items.stream().filter(item -> item.state == 1).count();
        int out = (int) items.stream().filter(item -> item.state == 2).count();
        int chutes = 0;
        while (isChute(chutes + 1)) {
            chutes++;
        }
        int[] answers = {loop.size(), items.size(), loop.size() - onTrays, steps, chutes, out, jammed ? 1 : 0};
        return what >= 0 && what <= 6 ? answers[what] : -1;
    }

    private boolean isItem(int item) {
        return item >= 1 && item <= items.size();
    }

    private boolean isChute(int chute) {
        return chute >= 1 && chute <= 6 && 2 * chute < loop.size();
    }

    private boolean isPlace(int place) {
        return place >= 0 && place < loop.size();
    }

    private static void argument(boolean holds) {
        if (!holds) {
            throw new IllegalArgumentException();
        }
    }

    private static void state(boolean holds) {
        if (!holds) {
            throw new IllegalStateException();
        }
    }
}
