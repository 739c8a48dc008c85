/**
 * An index tree whose gardeners split and merge its nodes at night while readers walk through it.
 * ../shared/DOC.md tells what each method promises.
 */
public final class LanternTree {
    public static final int NONE = -1;

    private static final int REFUSED = -2;
    private static final int MAX_NODES = 60;
    private static final int MAX_LEAF_KEYS = 12;
    private static final int MAX_READERS = 4;
    private static final int MAX_TEXT = 100;
    private static final int MAX_REMEMBERED = 14;
    private static final int SLOTS = 2;
    private static final int FIRST_ORDER = 3;
    private static final int LAST_KEY = 999;
    private static final int LAST_SIGN = 255;
    private static final int LONGEST_NIGHT = 40;
    private static final int MAX_TENTHS = 99;
    private static final int MAX_COMMANDS = 3;
    private static final int MAX_HOURS = 99;
    private static final long GROUP = 100000L;

    // Far above the steps of any walk and the jobs of any tree of 60 nodes.
    private static final int PATIENCE = 1000;

    private static final int WALKS = 0;
    private static final int FOUND = 1;
    private static final int NOT_FOUND = 2;
    private static final int OUT_OF_OIL = 3;

    private final Text text = new Text();
    private final State present = new State();
    // What would be is tried out here, so that no call has to make a state of its own.
    private final State trial = new State();
    // The remembered states, a ring, and behind them the save slots.
    private final State[] shelf = new State[MAX_REMEMBERED + SLOTS];
    private final int[] saved = new int[SLOTS];
    private int oldest;
    private int remembered;

    public LanternTree() {
        present.begin(FIRST_ORDER);
    }

    // ---- text

    public int append(int c) throws IllegalArgumentException, IllegalStateException {
        if (c < 0 || c > LAST_SIGN) {
            throw new IllegalArgumentException("a character is from 0 to 255");
        }
        if (text.isFull()) {
            throw new IllegalStateException("the text has 100 characters");
        }
        return text.write(c);
    }

    public int clearText() {
        return text.wipe();
    }

    public int errorPosition() {
        return text.firstError();
    }

    public int load() throws IllegalStateException {
        if (text.firstError() != NONE) {
            throw new IllegalStateException("the text is not a garden");
        }
        present.begin(text.orderOfGarden());
        forgetAll();
        emptySlots();
        int leftOut = 0;
        int position = Text.HEAD;
        for (int i = 0; i < MAX_TEXT && position < text.size(); i++) {
            int sign = text.sign(position);
            if (!present.obey(sign, text.numberBehind(position))) {
                leftOut++;
            }
            position += Text.commandLength(sign);
        }
        return leftOut;
    }

    // ---- the tree

    public int about(int what) throws IllegalArgumentException {
        if (what < 0 || what > 10) {
            throw new IllegalArgumentException("what is from 0 to 10");
        }
        return what == 10 ? present.readers.count : present.tree.number(what);
    }

    public int node(int n, int what) throws IndexOutOfBoundsException, IllegalArgumentException {
        requireNode(n);
        if (what < 0 || what > 5) {
            throw new IllegalArgumentException("what is from 0 to 5");
        }
        return what == 5 ? present.readers.standingOn(n) : present.tree.numberOfNode(n, what);
    }

    public int keyAt(int n, int i) throws IndexOutOfBoundsException, IllegalArgumentException {
        requireNode(n);
        requireNotNegative(i);
        return present.tree.keyOf(n, i);
    }

    public int child(int n, int i) throws IndexOutOfBoundsException, IllegalArgumentException {
        requireNode(n);
        requireNotNegative(i);
        return present.tree.childOf(n, i);
    }

    public int find(int key) throws IllegalArgumentException {
        requireKey(key);
        int way = present.tree.wayTo(key);
        return present.tree.holds(way % 1000, key) ? way : way - way % 1000 + 999;
    }

    public int sorted(int i) throws IllegalArgumentException {
        requireNotNegative(i);
        return present.tree.keyInOrder(i);
    }

    public float fullness() {
        return present.tree.shareOfLeavesFilled();
    }

    public int reader(int r, int what) throws IndexOutOfBoundsException, IllegalArgumentException {
        requireReader(r);
        if (what < 0 || what > 5) {
            throw new IllegalArgumentException("what is from 0 to 5");
        }
        return present.readers.number(r, what);
    }

    // ---- actions

    public int insert(int key) throws IllegalArgumentException, IllegalStateException {
        requireKey(key);
        if (present.tree.refusesKey(key)) {
            throw new IllegalStateException("the leaf cannot have another key");
        }
        remember();
        return present.tree.plant(key);
    }

    public int remove(int key) throws IllegalArgumentException {
        requireKey(key);
        remember();
        return present.tree.pull(key);
    }

    public int tend() {
        remember();
        return present.tendOnce();
    }

    public int night(int n) throws IllegalArgumentException {
        requireNight(n);
        remember();
        return present.passNight(n);
    }

    public int addReader(int key) throws IllegalArgumentException, IllegalStateException {
        requireKey(key);
        if (present.readers.count >= MAX_READERS) {
            throw new IllegalStateException("there are 4 readers");
        }
        remember();
        return present.readers.welcome(key, present.tree.root);
    }

    public int send(int r, int key) throws IndexOutOfBoundsException, IllegalArgumentException {
        requireReader(r);
        requireKey(key);
        remember();
        return present.readers.sendOut(r, key, present.tree.root);
    }

    public int step(int r) throws IndexOutOfBoundsException, IllegalStateException {
        requireReader(r);
        if (present.readers.isDone(r)) {
            throw new IllegalStateException("the reader walks no more");
        }
        remember();
        return present.takeStep(r);
    }

    public int pour(int r, int tenths) throws IndexOutOfBoundsException, IllegalArgumentException {
        requireReader(r);
        if (tenths < 1 || tenths > MAX_TENTHS) {
            throw new IllegalArgumentException("tenths are from 1 to 99");
        }
        remember();
        return present.readers.giveOil(r, tenths);
    }

    public int undo() throws IllegalStateException {
        if (remembered <= 0) {
            throw new IllegalStateException("no state is remembered");
        }
        remembered--;
        takeFromShelf((oldest + remembered) % MAX_REMEMBERED);
        return remembered;
    }

    // ---- what would be

    public int walk(int r) throws IndexOutOfBoundsException {
        requireReader(r);
        trial.become(present);
        return trial.stepsUntilDone(r);
    }

    public int work() {
        trial.become(present);
        int jobs = 0;
        for (int i = 0; i < PATIENCE && trial.tendOnce() != NONE; i++) {
            jobs++;
        }
        return jobs;
    }

    public int behindNight(int r, int n) throws IndexOutOfBoundsException, IllegalArgumentException {
        requireReader(r);
        requireNight(n);
        trial.become(present);
        trial.passNight(n);
        return trial.readers.number(r, 2);
    }

    // ---- scripts, simulations

    public int runScript(int n, long script) throws IllegalArgumentException {
        if (n < 1 || n > MAX_COMMANDS) {
            throw new IllegalArgumentException("a script has 1 to 3 commands");
        }
        if (script < 0 || withoutLastGroups(script, n) != 0) {
            throw new IllegalArgumentException("a script has at most 5 digits for each command");
        }
        trial.become(present);
        for (int i = 0; i < n; i++) {
            if (!trial.follow((int) (withoutLastGroups(script, n - 1 - i) % GROUP))) {
                return i;
            }
        }
        return NONE;
    }

    public int simulate(long seed, int m) throws IllegalArgumentException {
        if (m < 1 || m > MAX_HOURS) {
            throw new IllegalArgumentException("hours are from 1 to 99");
        }
        trial.become(present);
        long x = seed;
        for (int i = 0; i < m; i++) {
            x = x * 6364136223846793005L + 1442695040888963407L;
            trial.passHour((int) (x >>> 33));
        }
        return 1000 * (trial.tree.made - present.tree.made) + trial.tree.countKeys();
    }

    // ---- save slots

    public int save(int slot) throws IndexOutOfBoundsException {
        requireSlot(slot);
        putOnShelf(MAX_REMEMBERED + slot);
        put(saved, slot, 1);
        return present.tree.countKeys();
    }

    public int restore(int slot) throws IndexOutOfBoundsException, IllegalStateException {
        requireSlot(slot);
        if (at(saved, slot) != 1) {
            throw new IllegalStateException("nothing has been saved in the slot");
        }
        takeFromShelf(MAX_REMEMBERED + slot);
        forgetAll();
        return present.tree.countKeys();
    }

    // ---- wrong arguments

    private void requireNode(int n) {
        if (n < 0 || n >= present.tree.made) {
            throw new IndexOutOfBoundsException("there is no such node");
        }
    }

    private void requireReader(int r) {
        if (!present.readers.has(r)) {
            throw new IndexOutOfBoundsException("there is no such reader");
        }
    }

    private static void requireSlot(int slot) {
        if (slot < 0 || slot >= SLOTS) {
            throw new IndexOutOfBoundsException("a save slot is 0 or 1");
        }
    }

    private static void requireKey(int key) {
        if (key < 0 || key > LAST_KEY) {
            throw new IllegalArgumentException("a key is from 0 to 999");
        }
    }

    private static void requireNotNegative(int i) {
        if (i < 0) {
            throw new IllegalArgumentException("which one is from 0");
        }
    }

    private static void requireNight(int n) {
        if (n < 1 || n > LONGEST_NIGHT) {
            throw new IllegalArgumentException("a night is from 1 to 40");
        }
    }

    // ---- states that are kept

    private void remember() {
        if (remembered < MAX_REMEMBERED) {
            remembered++;
        } else {
            oldest = (oldest + 1) % MAX_REMEMBERED;
        }
        putOnShelf((oldest + remembered - 1) % MAX_REMEMBERED);
    }

    private void forgetAll() {
        oldest = 0;
        remembered = 0;
    }

    private void emptySlots() {
        for (int slot = 0; slot < SLOTS; slot++) {
            put(saved, slot, 0);
        }
    }

    private void putOnShelf(int place) {
        if (place < 0 || place >= shelf.length) {
            return;
        }
        State kept = shelf[place];
        if (kept == null) {
            kept = new State();
            shelf[place] = kept;
        }
        kept.become(present);
    }

    private void takeFromShelf(int place) {
        if (place < 0 || place >= shelf.length) {
            return;
        }
        State kept = shelf[place];
        if (kept != null) {
            present.become(kept);
        }
    }

    // ---- numbers and rows

    /** What is left of a script when that many groups are cut off at its end. */
    private static long withoutLastGroups(long script, int groups) {
        long rest = script;
        for (int i = 0; i < groups; i++) {
            rest = rest / GROUP;
        }
        return rest;
    }

    // Every row is read and written here, so that no index is used before it is looked at.

    private static int at(int[] row, int i) {
        return i >= 0 && i < row.length ? row[i] : NONE;
    }

    private static void put(int[] row, int i, int value) {
        if (i >= 0 && i < row.length) {
            row[i] = value;
        }
    }

    private static void copyRow(int[] from, int[] to) {
        System.arraycopy(from, 0, to, 0, from.length < to.length ? from.length : to.length);
    }

    /** The text buffer, and what its commands look like. */
    private static final class Text {
        private static final int HEAD = 2;

        private final int[] signs = new int[MAX_TEXT];
        private int length;

        private boolean isFull() {
            return length >= MAX_TEXT;
        }

        private int size() {
            return length;
        }

        private int sign(int position) {
            return at(signs, position);
        }

        private int write(int c) {
            put(signs, length, c);
            length++;
            return length;
        }

        private int wipe() {
            int before = length;
            length = 0;
            return before;
        }

        private int orderOfGarden() {
            return sign(1) - '0';
        }

        private int firstError() {
            if (length < 1 || sign(0) != 'L') {
                return 0;
            }
            if (length < HEAD || sign(1) < '2' || sign(1) > '6') {
                return 1;
            }
            int position = HEAD;
            for (int i = 0; i < MAX_TEXT && position < length; i++) {
                int error = errorInCommand(position);
                if (error != NONE) {
                    return error;
                }
                position += commandLength(sign(position));
            }
            return NONE;
        }

        private int errorInCommand(int position) {
            int signsOfCommand = commandLength(sign(position));
            if (signsOfCommand == 0) {
                return position;
            }
            int lastDigit = sign(position) == 's' ? '3' : '9';
            for (int i = 1; i < signsOfCommand; i++) {
                int digit = sign(position + i);
                if (position + i >= length || digit < '0' || digit > lastDigit) {
                    return position + i;
                }
            }
            return NONE;
        }

        /** The number that the digits of the command at this position write. */
        private int numberBehind(int position) {
            int signsOfCommand = commandLength(sign(position));
            int number = 0;
            for (int i = 1; i < signsOfCommand; i++) {
                number = 10 * number + sign(position + i) - '0';
            }
            return number;
        }

        /** How many characters a command has that begins with this one; 0 if none does. */
        private static int commandLength(int sign) {
            switch (sign) {
                case 'i':
                case 'd':
                case 'r':
                    return 4;
                case 's':
                    return 2;
                case 't':
                    return 1;
                default:
                    return 0;
            }
        }
    }

    /**
     * The nodes. The children of an inner node are neighbours on their level, joined by their links,
     * and its key i is the bound of its child i: every split, merge and new root keeps that true.
     * So its first child and the number of its keys tell all of them; only leaves have keys of their own.
     */
    private static final class Tree {
        private int order;
        private int made;
        private int root;
        private int splits;
        private int merges;
        private final int[] level = new int[MAX_NODES];
        private final int[] size = new int[MAX_NODES];
        private final int[] bound = new int[MAX_NODES];
        private final int[] link = new int[MAX_NODES];
        private final int[] gone = new int[MAX_NODES];
        private final int[] firstChild = new int[MAX_NODES];
        private final int[] leafKeys = new int[MAX_NODES * MAX_LEAF_KEYS];

        private void begin(int newOrder) {
            order = newOrder;
            made = 0;
            splits = 0;
            merges = 0;
            root = makeNode(0);
        }

        private void become(Tree other) {
            order = other.order;
            made = other.made;
            root = other.root;
            splits = other.splits;
            merges = other.merges;
            copyRow(other.level, level);
            copyRow(other.size, size);
            copyRow(other.bound, bound);
            copyRow(other.link, link);
            copyRow(other.gone, gone);
            copyRow(other.firstChild, firstChild);
            copyRow(other.leafKeys, leafKeys);
        }

        private int makeNode(int itsLevel) {
            int fresh = made;
            made++;
            put(level, fresh, itsLevel);
            put(size, fresh, 0);
            put(bound, fresh, NONE);
            put(link, fresh, NONE);
            put(gone, fresh, 0);
            put(firstChild, fresh, NONE);
            return fresh;
        }

        // ---- what there is

        private int number(int what) {
            switch (what) {
                case 0:
                    return order;
                case 1:
                    return countKeys();
                case 2:
                    return made;
                case 3:
                    return countGone();
                case 4:
                    return root;
                case 5:
                    return rootLevel();
                case 6:
                    return countLeaves();
                case 7:
                    return countTooFull();
                case 8:
                    return splits;
                default:
                    return merges;
            }
        }

        private int numberOfNode(int n, int what) {
            switch (what) {
                case 0:
                    return at(level, n);
                case 1:
                    return at(size, n);
                case 2:
                    return at(bound, n);
                case 3:
                    return at(link, n);
                default:
                    return at(gone, n);
            }
        }

        private int rootLevel() {
            return at(level, root);
        }

        private boolean isLeaf(int n) {
            return at(level, n) == 0;
        }

        private boolean isGone(int n) {
            return at(gone, n) == 1;
        }

        private boolean isTooFull(int n) {
            return at(gone, n) == 0 && at(size, n) > order;
        }

        private int countGone() {
            int count = 0;
            for (int n = 0; n < made; n++) {
                count += isGone(n) ? 1 : 0;
            }
            return count;
        }

        private int countLeaves() {
            int count = 0;
            for (int n = 0; n < made; n++) {
                count += isLeaf(n) && !isGone(n) ? 1 : 0;
            }
            return count;
        }

        private int countKeys() {
            int count = 0;
            for (int n = 0; n < made; n++) {
                count += isLeaf(n) && !isGone(n) ? at(size, n) : 0;
            }
            return count;
        }

        private int countTooFull() {
            int count = 0;
            for (int n = 0; n < made; n++) {
                count += isTooFull(n) ? 1 : 0;
            }
            return count;
        }

        private float shareOfLeavesFilled() {
            int places = countLeaves() * order;
            return places > 0 ? (float) countKeys() / (float) places : 0.0f;
        }

        private int keyInOrder(int i) {
            int leaf = leftmost(0);
            int ahead = i;
            for (int k = 0; k < MAX_NODES && leaf != NONE; k++) {
                if (ahead < at(size, leaf)) {
                    return at(leafKeys, leaf * MAX_LEAF_KEYS + ahead);
                }
                ahead -= at(size, leaf);
                leaf = at(link, leaf);
            }
            return NONE;
        }

        private int keyOf(int n, int i) {
            if (i < 0 || i >= at(size, n)) {
                return NONE;
            }
            return isLeaf(n) ? at(leafKeys, n * MAX_LEAF_KEYS + i) : at(bound, childOf(n, i));
        }

        private int childOf(int n, int i) {
            if (i < 0 || i > at(size, n) || isLeaf(n)) {
                return NONE;
            }
            int c = at(firstChild, n);
            for (int k = 0; k < MAX_NODES && k < i; k++) {
                c = at(link, c);
            }
            return c;
        }

        private int leftmost(int wantedLevel) {
            int n = root;
            for (int k = 0; k < MAX_NODES && at(level, n) > wantedLevel; k++) {
                n = at(firstChild, n);
            }
            return n;
        }

        private int parentOf(int n) {
            for (int parent = 0; parent < made; parent++) {
                boolean maybe = at(gone, parent) == 0 && at(level, parent) == at(level, n) + 1;
                int children = maybe ? at(size, parent) + 1 : 0;
                int c = at(firstChild, parent);
                for (int i = 0; i < children; i++) {
                    if (c == n) {
                        return parent;
                    }
                    c = at(link, c);
                }
            }
            return NONE;
        }

        // ---- looking for keys

        private boolean endsAhead(int n, int key) {
            return at(bound, n) != NONE && at(bound, n) <= key;
        }

        private int nextNode(int n, int key) {
            if (at(bound, n) != NONE && at(bound, n) <= key) {
                return at(link, n);
            }
            int keys = at(size, n);
            int c = at(firstChild, n);
            for (int i = 0; i < keys && at(bound, c) <= key; i++) {
                c = at(link, c);
            }
            return c;
        }

        /** 1000 * (the steps from the root to the leaf where the key belongs) + (this leaf). */
        private int wayTo(int key) {
            int n = root;
            int steps = 0;
            for (int k = 0; k < PATIENCE && (!isLeaf(n) || endsAhead(n, key)); k++) {
                n = nextNode(n, key);
                steps++;
            }
            return 1000 * steps + n;
        }

        private int leafFor(int key) {
            return wayTo(key) % 1000;
        }

        /** How many keys of a leaf are less than this one. */
        private int placeIn(int leaf, int key) {
            int place = 0;
            for (int i = 0; i < at(size, leaf) && i < MAX_LEAF_KEYS; i++) {
                place += at(leafKeys, leaf * MAX_LEAF_KEYS + i) < key ? 1 : 0;
            }
            return place;
        }

        private boolean holds(int leaf, int key) {
            int place = placeIn(leaf, key);
            return place < at(size, leaf) && at(leafKeys, leaf * MAX_LEAF_KEYS + place) == key;
        }

        private boolean hasKey(int key) {
            return holds(leafFor(key), key);
        }

        // ---- planting and pulling

        private boolean refusesKey(int key) {
            int leaf = leafFor(key);
            return at(size, leaf) >= 2 * order && !holds(leaf, key);
        }

        /** REFUSED where the document has an exception. */
        private int plant(int key) {
            int leaf = leafFor(key);
            if (holds(leaf, key)) {
                return NONE;
            }
            int keys = at(size, leaf);
            if (keys >= 2 * order) {
                return REFUSED;
            }
            int place = placeIn(leaf, key);
            int row = leaf * MAX_LEAF_KEYS;
            for (int i = keys; i > place && i > 0; i--) {
                put(leafKeys, row + i, at(leafKeys, row + i - 1));
            }
            put(leafKeys, row + place, key);
            put(size, leaf, keys + 1);
            return leaf;
        }

        private int pull(int key) {
            int leaf = leafFor(key);
            if (!holds(leaf, key)) {
                return NONE;
            }
            int keys = at(size, leaf);
            int row = leaf * MAX_LEAF_KEYS;
            for (int i = placeIn(leaf, key); i < keys - 1; i++) {
                put(leafKeys, row + i, at(leafKeys, row + i + 1));
            }
            put(size, leaf, keys - 1);
            return leaf;
        }

        // ---- what the gardeners do

        /** The node that is to be split, or NONE if there is none or no room for new nodes. */
        private int nodeToSplit() {
            for (int wanted = 0; wanted <= rootLevel() && wanted < MAX_NODES; wanted++) {
                int n = leftmost(wanted);
                for (int k = 0; k < MAX_NODES && n != NONE; k++) {
                    if (isTooFull(n)) {
                        return made + (n == root ? 2 : 1) <= MAX_NODES ? n : NONE;
                    }
                    n = at(link, n);
                }
            }
            return NONE;
        }

        private void split(int n) {
            int parent = parentOf(n);
            int fresh = makeNode(at(level, n));
            put(bound, fresh, at(bound, n));
            put(link, fresh, at(link, n));
            int newBound = isLeaf(n) ? shareKeys(n, fresh) : shareChildren(n, fresh);
            put(bound, n, newBound);
            put(link, n, fresh);
            if (n == root) {
                root = makeNode(at(level, n) + 1);
                put(firstChild, root, n);
                put(size, root, 1);
            } else {
                put(size, parent, at(size, parent) + 1);
            }
            splits++;
        }

        private int shareKeys(int leaf, int fresh) {
            int keys = at(size, leaf);
            int kept = keys / 2;
            for (int i = kept; i < keys; i++) {
                put(leafKeys, fresh * MAX_LEAF_KEYS + i - kept, at(leafKeys, leaf * MAX_LEAF_KEYS + i));
            }
            put(size, leaf, kept);
            put(size, fresh, keys - kept);
            return at(leafKeys, fresh * MAX_LEAF_KEYS);
        }

        private int shareChildren(int n, int fresh) {
            int keys = at(size, n);
            int kept = keys / 2;
            int lastKept = at(firstChild, n);
            for (int i = 0; i < kept; i++) {
                lastKept = at(link, lastKept);
            }
            put(firstChild, fresh, at(link, lastKept));
            put(size, n, kept);
            put(size, fresh, keys - kept - 1);
            return at(bound, lastKept);
        }

        private boolean areFewEnough(int leaf, int next) {
            int keys = at(size, leaf);
            int keysOfNext = at(size, next);
            return keys + keysOfNext <= order && (keys < order / 2 || keysOfNext < order / 2);
        }

        private void merge(int leaf) {
            int parent = parentOf(leaf);
            int other = at(link, leaf);
            int keys = at(size, leaf);
            int more = at(size, other);
            for (int i = 0; i < more; i++) {
                put(leafKeys, leaf * MAX_LEAF_KEYS + keys + i, at(leafKeys, other * MAX_LEAF_KEYS + i));
            }
            put(size, leaf, keys + more);
            put(bound, leaf, at(bound, other));
            put(link, leaf, at(link, other));
            put(gone, other, 1);
            put(size, parent, at(size, parent) - 1);
            merges++;
        }

        private boolean rootIsToBeLeft() {
            return rootLevel() > 0 && at(size, root) == 0;
        }

        private void leaveRoot() {
            put(gone, root, 1);
            root = at(firstChild, root);
        }
    }

    /** The readers, a column each. */
    private static final class Readers {
        private int count;
        private final int[] place = new int[MAX_READERS];
        private final int[] wanted = new int[MAX_READERS];
        private final int[] mood = new int[MAX_READERS];
        private final int[] steps = new int[MAX_READERS];
        private final int[] lost = new int[MAX_READERS];
        private final float[] oil = new float[MAX_READERS];

        private void become(Readers other) {
            count = other.count;
            copyRow(other.place, place);
            copyRow(other.wanted, wanted);
            copyRow(other.mood, mood);
            copyRow(other.steps, steps);
            copyRow(other.lost, lost);
            for (int r = 0; r < MAX_READERS; r++) {
                setOil(r, other.oilOf(r));
            }
        }

        private boolean has(int r) {
            return r >= 0 && r < count;
        }

        private float oilOf(int r) {
            return r >= 0 && r < oil.length ? oil[r] : 0.0f;
        }

        private void setOil(int r, float amount) {
            if (r >= 0 && r < oil.length) {
                oil[r] = amount;
            }
        }

        private int number(int r, int what) {
            switch (what) {
                case 0:
                    return at(place, r);
                case 1:
                    return at(wanted, r);
                case 2:
                    return at(mood, r);
                case 3:
                    return at(steps, r);
                case 4:
                    return at(lost, r);
                default:
                    return (int) (oilOf(r) * 1000.0f);
            }
        }

        private boolean isDone(int r) {
            return at(mood, r) == FOUND || at(mood, r) == NOT_FOUND;
        }

        private int standingOn(int n) {
            int standing = 0;
            for (int r = 0; r < count && r < place.length; r++) {
                standing += place[r] == n ? 1 : 0;
            }
            return standing;
        }

        private int countFound() {
            int found = 0;
            for (int r = 0; r < count; r++) {
                found += at(mood, r) == FOUND ? 1 : 0;
            }
            return found;
        }

        /** REFUSED where the document has an exception. */
        private int welcome(int key, int root) {
            if (count >= MAX_READERS) {
                return REFUSED;
            }
            int r = count;
            count++;
            setOil(r, 4.0f);
            sendOut(r, key, root);
            return r;
        }

        private int sendOut(int r, int key, int root) {
            int before = at(wanted, r);
            put(place, r, root);
            put(wanted, r, key);
            put(mood, r, WALKS);
            put(steps, r, 0);
            put(lost, r, 0);
            return before;
        }

        /** REFUSED where the document has an exception. */
        private int giveOil(int r, int tenths) {
            if (!has(r) || tenths < 1 || tenths > MAX_TENTHS) {
                return REFUSED;
            }
            float sum = oilOf(r) + (float) tenths / 10.0f;
            setOil(r, sum > 16.0f ? 16.0f : sum);
            return number(r, 5);
        }

        private void getLost(int r, int root) {
            put(place, r, root);
            put(mood, r, WALKS);
            put(lost, r, at(lost, r) + 1);
        }

        private void goOn(int r, int n, float cost) {
            setOil(r, oilOf(r) - cost);
            put(place, r, n);
            put(mood, r, WALKS);
            put(steps, r, at(steps, r) + 1);
        }
    }

    /** A tree with its readers: what actions change, and what is remembered, saved and tried out. */
    private static final class State {
        private final Tree tree = new Tree();
        private final Readers readers = new Readers();

        private void begin(int order) {
            tree.begin(order);
            readers.count = 0;
        }

        private void become(State other) {
            tree.become(other.tree);
            readers.become(other.readers);
        }

        // ---- the gardeners

        private int tendOnce() {
            int full = tree.nodeToSplit();
            if (full != NONE) {
                tree.split(full);
                return 100 + full;
            }
            int leaf = leafToMerge();
            if (leaf != NONE) {
                tree.merge(leaf);
                return 200 + leaf;
            }
            if (tree.rootIsToBeLeft()) {
                tree.leaveRoot();
                return 300 + tree.root;
            }
            return NONE;
        }

        private int leafToMerge() {
            if (tree.rootLevel() < 1) {
                return NONE;
            }
            int parent = tree.leftmost(1);
            for (int k = 0; k < MAX_NODES && parent != NONE; k++) {
                int leaf = at(tree.firstChild, parent);
                for (int i = 0; i < at(tree.size, parent) && i < MAX_NODES; i++) {
                    int next = at(tree.link, leaf);
                    if (tree.areFewEnough(leaf, next) && nobodyIsOn(leaf, next)) {
                        return leaf;
                    }
                    leaf = next;
                }
                parent = at(tree.link, parent);
            }
            return NONE;
        }

        private boolean nobodyIsOn(int leaf, int next) {
            return readers.standingOn(leaf) + readers.standingOn(next) == 0;
        }

        /** REFUSED where the document has an exception. */
        private int passNight(int n) {
            if (n < 1 || n > LONGEST_NIGHT) {
                return REFUSED;
            }
            for (int i = 0; i < n; i++) {
                tendOnce();
                for (int r = 0; r < MAX_READERS; r++) {
                    takeStep(r);
                }
            }
            return readers.countFound();
        }

        // ---- the readers

        /** REFUSED where the document has an exception. */
        private int takeStep(int r) {
            if (!readers.has(r) || readers.isDone(r)) {
                return REFUSED;
            }
            int n = at(readers.place, r);
            int key = at(readers.wanted, r);
            if (tree.isGone(n)) {
                readers.getLost(r, tree.root);
            } else if (tree.isLeaf(n) && !tree.endsAhead(n, key)) {
                put(readers.mood, r, tree.holds(n, key) ? FOUND : NOT_FOUND);
            } else {
                burnAndGo(r, n, key);
            }
            return at(readers.place, r);
        }

        private void burnAndGo(int r, int n, int key) {
            float cost = 0.25f + 0.125f * (float) at(tree.level, n);
            if (readers.oilOf(r) < cost) {
                put(readers.mood, r, OUT_OF_OIL);
            } else {
                readers.goOn(r, tree.nextNode(n, key), cost);
            }
        }

        private int stepsUntilDone(int r) {
            int steps = 0;
            for (int i = 0; i < PATIENCE && !readers.isDone(r); i++) {
                takeStep(r);
                steps++;
                if (at(readers.mood, r) == OUT_OF_OIL) {
                    return NONE;
                }
            }
            return steps;
        }

        // ---- commands

        /** A command of a garden; false if it is left out. */
        private boolean obey(int sign, int number) {
            switch (sign) {
                case 'i':
                    return tree.plant(number) != REFUSED;
                case 'd':
                    tree.pull(number);
                    return true;
                case 't':
                    tendOnce();
                    return true;
                case 'r':
                    return readers.welcome(number, tree.root) != REFUSED;
                default:
                    return takeStep(number) != REFUSED;
            }
        }

        /** A command of a script, its five digits as one number; false if it fails. */
        private boolean follow(int group) {
            int second = group / 1000 % 10;
            int third = group / 100 % 10;
            int lastThree = group % 1000;
            int lastTwo = group % 100;
            switch (group / 10000) {
                case 1:
                    return second == 0 && tree.plant(lastThree) >= 0;
                case 2:
                    return second == 0 && tree.pull(lastThree) >= 0;
                case 3:
                    return group % 10000 == 0 && tendOnce() != REFUSED;
                case 4:
                    return second == 0 && third == 0 && passNight(lastTwo) != REFUSED;
                case 5:
                    return lastThree == 0 && takeStep(second) != REFUSED;
                case 6:
                    return third == 0 && readers.giveOil(second, lastTwo) != REFUSED;
                case 7:
                    return second == 0 && tree.hasKey(lastThree);
                case 8:
                    return lastThree < 10 && readers.has(second) && at(readers.mood, second) == lastThree;
                case 9:
                    return group % 10000 < 10 && tree.rootLevel() <= lastTwo;
                default:
                    return false;
            }
        }

        /** An hour of a simulation. */
        private void passHour(int chance) {
            int key = chance / 4 % 1000;
            switch (chance % 4) {
                case 2:
                    tree.pull(key);
                    break;
                case 3:
                    tendOnce();
                    break;
                default:
                    tree.plant(key);
                    break;
            }
        }
    }
}
