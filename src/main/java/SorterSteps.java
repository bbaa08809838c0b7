/** A sorter whose trays run in a loop, moved on step by step. */
public final class SorterSteps {
    private static final int MIN_TRAYS = 2;
    private static final int MAX_TRAYS = 40;
    private static final int MAX_ROUNDS = 9;
    private static final int MAX_ITEMS = 60;
    private static final int MAX_LENGTH = 100;
    private static final int FIRST_TRAY_LENGTH = 60;
    private static final int MAX_RETRIES = 9;
    private static final int MAX_STEPS = 100;
    private static final int MAX_CHUTES = 6;
    private static final int CHUTE_DISTANCE = 2;
    private static final int INDUCTS = 2;

    private static final int NEW = 0;
    private static final int ON_TRAY = 1;
    private static final int OUT = 2;
    private static final int MANUAL = 3;
    private static final int OVERFLOW = 4;
    private static final int LOST = 5;

    private static final int LEFT_TO_MANUAL = 0;
    private static final int LEFT_TO_OVERFLOW = -1;
    private static final int LEFT_AS_LOST = -2;

    private static final int UNREAD = 0;
    private static final int NOWHERE = -1;

    private static final class Item {
        final int number;
        final int length;
        int state = NEW;
        int code = UNREAD;
        int rounds;
        int tray = NOWHERE;
        int retries;
        int codeAfterRetries;
        boolean doubted;
        boolean found;
        // An item leaves its tray once in its life, so its row of out() has room here.
        int leftTo;
        int leftAtStep;

        Item(int number, int length) {
            this.number = number;
            this.length = length;
        }
    }

    /** Items in the order in which they came, never more than the room made at first. */
    private static final class ItemRow {
        private final Item[] places;
        private int size;

        ItemRow(int room) {
            places = new Item[Math.max(room, 0)];
        }

        int size() {
            return size;
        }

        boolean isFilled() {
            return size >= places.length;
        }

        void add(Item item) {
            if (!isFilled()) {
                places[size] = item;
                size++;
            }
        }

        /** The item at a place counted from 0 on; null if there are not so many. */
        Item at(int place) {
            return place >= 0 && place < size ? places[place] : null;
        }

        void clear() {
            size = 0;
        }
    }

    private final Item[] onTrays;
    // Place 0 stays unused, so that a chute's number is its place.
    private final boolean[] fullChutes;
    private final ItemRow items = new ItemRow(MAX_ITEMS);
    private final ItemRow left = new ItemRow(MAX_ITEMS);
    private final ItemRow doubted = new ItemRow(MAX_TRAYS);
    private final int allowedRounds;
    private int trayLength = FIRST_TRAY_LENGTH;
    private int steps;
    // Kept beside the steps, since a count of steps may wrap round and a position must not.
    private int positionOfFirstTray;
    private boolean jammed;

    public SorterSteps(int trays, int rounds) {
        int trayCount = Math.min(Math.max(trays, MIN_TRAYS), MAX_TRAYS);
        int chuteCount = Math.min((trayCount - 1) / CHUTE_DISTANCE, MAX_CHUTES);
        onTrays = new Item[trayCount];
        fullChutes = new boolean[chuteCount + 1];
        allowedRounds = Math.min(Math.max(rounds, 0), MAX_ROUNDS);
    }

    public int item(int length) throws IllegalArgumentException, UnsupportedOperationException {
        requireLength(length);
        if (items.isFilled()) {
            throw new UnsupportedOperationException("there are sixty items");
        }
        Item item = new Item(items.size() + 1, length);
        items.add(item);
        return item.number;
    }

    public int induct(int item, int at, int code) throws IllegalArgumentException, IllegalStateException {
        Item coming = itemNumbered(item);
        if (at < 0 || at >= INDUCTS) {
            throw new IllegalArgumentException("no such induct");
        }
        requireCode(code);
        requireNotJammed();
        requireFit(coming);
        if (itemAt(at) != null) {
            throw new IllegalStateException("the tray is not empty");
        }
        coming.code = code;
        putOnTray(coming, trayAt(at));
        return coming.tray;
    }

    public int length(int length) throws IllegalArgumentException {
        requireLength(length);
        trayLength = length;
        int longer = 0;
        for (Item item : onTrays) {
            if (item != null && item.length > trayLength) {
                longer++;
            }
        }
        return longer;
    }

    public void retry(int item, int retries, int code) throws IllegalArgumentException, IllegalStateException {
        Item unread = itemNumbered(item);
        if (retries < 0 || retries > MAX_RETRIES) {
            throw new IllegalArgumentException("no such number of retries");
        }
        requireCode(code);
        if (unread.state != ON_TRAY) {
            throw new IllegalStateException("the item is not on a tray");
        }
        if (unread.code != UNREAD) {
            throw new IllegalStateException("the item has a code");
        }
        unread.retries = retries;
        unread.codeAfterRetries = code;
    }

    public int step(int n) throws IllegalArgumentException, IllegalStateException {
        if (n < 0 || n > MAX_STEPS) {
            throw new IllegalArgumentException("no such number of steps");
        }
        requireNotJammed();
        int leftBefore = left.size();
        for (int made = 0; made < n; made++) {
            makeOneStep();
        }
        return left.size() - leftBefore;
    }

    public int out(int i, int what) throws IllegalArgumentException {
        Item gone = left.at(i);
        if (gone == null) {
            throw new IllegalArgumentException("not so many items left their trays");
        }
        switch (what) {
            case 0: return gone.number;
            case 1: return gone.leftTo;
            case 2: return gone.leftAtStep;
            case 3: return gone.rounds;
            default: throw new IllegalArgumentException("no such what");
        }
    }

    public boolean chute(int chute, boolean full) throws IllegalArgumentException {
        requireChute(chute);
        boolean was = isFull(chute);
        setFull(chute, full);
        return was;
    }

    public int jam(int from, int to) throws IllegalArgumentException, IllegalStateException {
        if (!isInLoop(from) || !isInLoop(to)) {
            throw new IllegalArgumentException("no such positions");
        }
        requireNotJammed();
        jammed = true;
        int lastBehindFrom = intoLoop(to - from);
        for (int behind = 0; behind <= lastBehindFrom; behind++) {
            doubtItemAt(intoLoop(from + behind));
        }
        return doubted.size();
    }

    public int doubt(int i) {
        Item item = doubted.at(i);
        return item == null ? -1 : item.number;
    }

    public int found(int item, boolean is) throws IllegalArgumentException, IllegalStateException {
        Item sought = itemNumbered(item);
        if (!sought.doubted) {
            throw new IllegalStateException("the item is not doubted");
        }
        sought.found = is;
        return countNotFound();
    }

    public int retrack() throws IllegalStateException {
        if (!jammed) {
            throw new IllegalStateException("it is not jammed");
        }
        int leftBefore = left.size();
        for (int place = 0; place < doubted.size(); place++) {
            endDoubt(doubted.at(place));
        }
        doubted.clear();
        jammed = false;
        return left.size() - leftBefore;
    }

    public boolean manual(int item, int chute) throws IllegalArgumentException, IllegalStateException {
        Item carried = itemNumbered(item);
        requireChute(chute);
        if (carried.state != MANUAL && carried.state != LOST) {
            throw new IllegalStateException("the item is neither manual nor lost");
        }
        if (isFull(chute)) {
            return false;
        }
        carried.state = OUT;
        return true;
    }

    public int tray(int tray) throws ArrayIndexOutOfBoundsException {
        if (!isInLoop(tray)) {
            throw new ArrayIndexOutOfBoundsException("no such tray");
        }
        Item item = onTrays[tray];
        return item == null ? 0 : item.number;
    }

    public int told(int item, int what) throws IllegalArgumentException {
        Item asked = itemNumbered(item);
        switch (what) {
            case 0: return asked.state;
            case 1: return asked.code;
            case 2: return asked.rounds;
            case 3: return asked.length;
            case 4: return asked.tray;
            case 5: return positionOf(asked);
            case 6: return asked.retries;
            default: throw new IllegalArgumentException("no such what");
        }
    }

    public int count(int what) {
        switch (what) {
            case 0: return onTrays.length;
            case 1: return items.size();
            case 2: return countEmptyTrays();
            case 3: return steps;
            case 4: return fullChutes.length - 1;
            case 5: return countOut();
            case 6: return jammed ? 1 : 0;
            default: return -1;
        }
    }

    private Item itemNumbered(int number) {
        Item item = items.at(number - 1);
        if (item == null) {
            throw new IllegalArgumentException("no such item");
        }
        return item;
    }

    private void requireLength(int length) {
        if (length < 1 || length > MAX_LENGTH) {
            throw new IllegalArgumentException("no such length");
        }
    }

    private void requireChute(int chute) {
        if (!isChute(chute)) {
            throw new IllegalArgumentException("no such chute");
        }
    }

    private void requireCode(int code) {
        if (code != UNREAD && !isChute(code)) {
            throw new IllegalArgumentException("no such code");
        }
    }

    private void requireNotJammed() {
        if (jammed) {
            throw new IllegalStateException("it is jammed");
        }
    }

    private void requireFit(Item coming) {
        if (coming.state != NEW) {
            throw new IllegalStateException("the item is not new");
        }
        if (coming.length > trayLength) {
            throw new IllegalStateException("the item is longer than the trays");
        }
    }

    private boolean isChute(int chute) {
        return chute >= 1 && chute < fullChutes.length;
    }

    private boolean isFull(int chute) {
        return isChute(chute) && fullChutes[chute];
    }

    private void setFull(int chute, boolean full) {
        if (isChute(chute)) {
            fullChutes[chute] = full;
        }
    }

    /** Trays and positions are numbered alike, so that this is asked of both. */
    private boolean isInLoop(int place) {
        return place >= 0 && place < onTrays.length;
    }

    /** For a sum or a difference of two places, which is at most one loop too far. */
    private int intoLoop(int place) {
        if (place < 0) {
            return place + onTrays.length;
        }
        return place < onTrays.length ? place : place - onTrays.length;
    }

    private int trayAt(int position) {
        return intoLoop(position - positionOfFirstTray);
    }

    private Item itemAt(int position) {
        int tray = trayAt(position);
        return isInLoop(tray) ? onTrays[tray] : null;
    }

    private int positionOf(Item item) {
        return item.tray == NOWHERE ? NOWHERE : intoLoop(item.tray + positionOfFirstTray);
    }

    private void putOnTray(Item item, int tray) {
        if (isInLoop(tray)) {
            onTrays[tray] = item;
            item.tray = tray;
            item.state = ON_TRAY;
        }
    }

    private void takeOffTray(Item item, int state, int leftTo) {
        if (isInLoop(item.tray)) {
            onTrays[item.tray] = null;
        }
        item.tray = NOWHERE;
        item.state = state;
        item.leftTo = leftTo;
        item.leftAtStep = steps;
        left.add(item);
    }

    private void makeOneStep() {
        steps++;
        positionOfFirstTray = intoLoop(positionOfFirstTray + 1);
        for (int chute = 1; chute < fullChutes.length; chute++) {
            passChute(chute);
        }
        readAgainAtStart();
    }

    private void passChute(int chute) {
        Item item = itemAt(chute * CHUTE_DISTANCE);
        if (item == null || item.code != chute) {
            return;
        }
        if (!isFull(chute)) {
            takeOffTray(item, OUT, chute);
            return;
        }
        item.rounds++;
        if (item.rounds > allowedRounds) {
            takeOffTray(item, OVERFLOW, LEFT_TO_OVERFLOW);
        }
    }

    private void readAgainAtStart() {
        Item item = itemAt(0);
        if (item == null || item.code != UNREAD) {
            return;
        }
        if (item.retries == 0) {
            takeOffTray(item, MANUAL, LEFT_TO_MANUAL);
            return;
        }
        item.retries--;
        if (item.retries == 0) {
            item.code = item.codeAfterRetries;
        }
    }

    private void doubtItemAt(int position) {
        Item item = itemAt(position);
        if (item != null) {
            item.doubted = true;
            item.found = false;
            doubted.add(item);
        }
    }

    private void endDoubt(Item item) {
        if (item == null) {
            return;
        }
        item.doubted = false;
        if (!item.found) {
            takeOffTray(item, LOST, LEFT_AS_LOST);
        }
    }

    private int countNotFound() {
        int notFound = 0;
        for (int place = 0; place < doubted.size(); place++) {
            Item item = doubted.at(place);
            if (item != null && !item.found) {
                notFound++;
            }
        }
        return notFound;
    }

    private int countEmptyTrays() {
        int empty = 0;
        for (Item item : onTrays) {
            if (item == null) {
                empty++;
            }
        }
        return empty;
    }

    private int countOut() {
        int out = 0;
        for (int place = 0; place < items.size(); place++) {
            Item item = items.at(place);
            if (item != null && item.state == OUT) {
                out++;
            }
        }
        return out;
    }
}
