/** Promises 23 and 25 to 29: what would be, scripts, simulations, and save slots. */
public final class WouldBeTest {
    private static final Due DUE = new Due();

    // Leaf 0 (10 20) and leaf 1 (30 40) below the root 2 (30); reader 0 of 40 on the root.
    private static final String TWO_LEAVES = "L2i010i020i030i040tr040";

    public static void main(String[] args) {
        walk();
        walkWithoutOil();
        behindNight();
        scriptLimits();
        scriptCommands();
        scriptOnACopy();
        otherGroups();
        simulate();
        simulateLimits();
        save();
        restore();
        restoreOfMerges();
        restoreOfInnerNodes();
        DUE.end();
    }

    private static void walk() {
        LanternTree tree = Due.garden(TWO_LEAVES + "r035");
        DUE.is("walk(0) to a key", tree.walk(0), 2);
        DUE.is("walk(1) to no key", tree.walk(1), 2);
        DUE.is("it changes nothing", tree.reader(0, 0), 2);
        DUE.is("it burns nothing", tree.reader(0, 5), 4000);
        tree.step(0);
        DUE.is("walk(0) on the leaf", tree.walk(0), 1);
        tree.step(0);
        DUE.is("walk(0) when it has found", tree.walk(0), 0);
        tree.step(1);
        tree.step(1);
        DUE.is("walk(1) when it has not found", tree.walk(1), 0);
        DUE.is("undo()", tree.undo(), 3);
        int[] noReaders = {2, -1, Integer.MIN_VALUE, Integer.MAX_VALUE};
        for (int r : noReaders) {
            DUE.throwsIndex("walk(" + r + ")", () -> tree.walk(r));
        }
        LanternTree lost = Due.garden("L2i010i020i030tr030d010td020i040d030t");
        DUE.is("walk(0) of one on the old root", lost.walk(0), 2);
        LanternTree right = Due.garden("L2i010i020i030i040r040t");
        DUE.is("walk(0) to the right", right.walk(0), 2);
    }

    private static void walkWithoutOil() {
        LanternTree tree = Due.garden(TWO_LEAVES);
        for (int i = 0; i < 10; i++) {
            tree.step(0);
            DUE.is("walk(0) on the leaf", tree.walk(0), 1);
            tree.send(0, 40);
        }
        DUE.is("walk(0) that would end without oil", tree.walk(0), -1);
        DUE.is("reader(0, 2) all the same", tree.reader(0, 2), 0);
        tree.step(0);
        DUE.is("walk(0) without oil", tree.walk(0), -1);
        tree.pour(0, 5);
        DUE.is("reader(0, 2) with new oil", tree.reader(0, 2), 3);
        DUE.is("walk(0) with new oil", tree.walk(0), 2);
    }

    private static void behindNight() {
        LanternTree tree = Due.garden("L2i010i020i030r030r025");
        DUE.is("behindNight(0, 1)", tree.behindNight(0, 1), 0);
        DUE.is("behindNight(0, 2)", tree.behindNight(0, 2), 1);
        DUE.is("behindNight(1, 2)", tree.behindNight(1, 2), 2);
        DUE.is("behindNight(1, 40)", tree.behindNight(1, 40), 2);
        DUE.is("about(8) all the same", tree.about(8), 0);
        DUE.is("reader(0, 0) all the same", tree.reader(0, 0), 0);
        DUE.throwsState("undo(), for it is no action", tree::undo);
        int[] wrong = {0, -1, 41, Integer.MIN_VALUE, Integer.MAX_VALUE};
        for (int n : wrong) {
            DUE.throwsArgument("behindNight(0, " + n + ")", () -> tree.behindNight(0, n));
            DUE.throwsIndex("behindNight(2, " + n + ")", () -> tree.behindNight(2, n));
        }
        DUE.throwsIndex("behindNight(-1, 1)", () -> tree.behindNight(-1, 1));
        LanternTree dry = Due.garden(TWO_LEAVES);
        for (int i = 0; i < 10; i++) {
            dry.step(0);
            dry.send(0, 40);
        }
        DUE.is("behindNight(0, 5) without oil", dry.behindNight(0, 5), 3);
    }

    private static void scriptLimits() {
        LanternTree tree = new LanternTree();
        int[] wrong = {0, -1, 4, Integer.MIN_VALUE, Integer.MAX_VALUE};
        for (int n : wrong) {
            DUE.throwsArgument("runScript(" + n + ", 0)", () -> tree.runScript(n, 0L));
        }
        DUE.throwsArgument("runScript(1, -1)", () -> tree.runScript(1, -1L));
        DUE.throwsArgument("runScript(3, smallest)", () -> tree.runScript(3, Long.MIN_VALUE));
        DUE.throwsArgument("runScript(3, greatest)", () -> tree.runScript(3, Long.MAX_VALUE));
        DUE.throwsArgument("runScript(1, 100000)", () -> tree.runScript(1, 100000L));
        DUE.throwsArgument("runScript(2, 10000000000)", () -> tree.runScript(2, 10000000000L));
        DUE.throwsArgument("runScript(3, 1000000000000000)", () -> tree.runScript(3, 1000000000000000L));
        DUE.is("runScript(1, 99999)", tree.runScript(1, 99999L), 0);
        DUE.is("runScript(1, 0)", tree.runScript(1, 0L), 0);
        DUE.is("runScript(2, 9999999999)", tree.runScript(2, 9999999999L), 0);
        DUE.is("runScript(2, 30000)", tree.runScript(2, 30000L), 0);
        DUE.is("runScript(2, 3000000000)", tree.runScript(2, 3000000000L), 1);
        DUE.is("runScript(3, 300003000030000)", tree.runScript(3, 300003000030000L), -1);
        DUE.is("runScript(3, 300003000000000)", tree.runScript(3, 300003000000000L), 2);
        DUE.is("runScript(3, 999999999999999)", tree.runScript(3, 999999999999999L), 0);
    }

    /** One command on a tree of two leaves with reader 0 on the root and reader 1 that has found. */
    private static void command(long group, boolean succeeds) {
        LanternTree tree = Due.garden(TWO_LEAVES + "r010s1s1");
        DUE.is("command " + group, tree.runScript(1, group), succeeds ? -1 : 0);
    }

    private static void scriptCommands() {
        long[] good = {10025, 10000, 10999, 20010, 30000, 40001, 40040, 50000, 60001, 60099, 61099, 70010, 70040,
            80000, 81001, 90001, 90009, 90002};
        for (long group : good) {
            command(group, true);
        }
        long[] bad = {10010, 20011, 20000, 40000, 40041, 40099, 51000, 52000, 53000, 59000, 60000, 61000, 62001, 69001,
            70011, 70000, 80001, 80002, 80003, 80004, 80009, 81000, 82000, 89000, 90000, 0, 1, 999};
        for (long group : bad) {
            command(group, false);
        }
        LanternTree full = Due.garden("L2i001i002i003i004");
        DUE.is("a key into a full leaf", full.runScript(1, 10005L), 0);
        DUE.is("a key into a full leaf, split before", full.runScript(2, 3000010005L), -1);
    }

    private static void scriptOnACopy() {
        LanternTree tree = Due.garden(TWO_LEAVES);
        DUE.is("step, step, found", tree.runScript(3, 500005000080001L), -1);
        DUE.is("reader(0, 2) all the same", tree.reader(0, 2), 0);
        DUE.is("insert, has, remove", tree.runScript(3, 100257002520025L), -1);
        DUE.is("about(1) all the same", tree.about(1), 4);
        DUE.is("remove, has", tree.runScript(2, 2001070010L), 1);
        DUE.is("insert twice", tree.runScript(2, 1002510025L), 1);
        DUE.is("night, found, step of one that has found", tree.runScript(3, 400028000150000L), 2);
        DUE.is("pour, not yet walking", tree.runScript(3, 600998000090001L), -1);
        DUE.throwsState("undo(), for it is no action", tree::undo);
        LanternTree flat = Due.garden("L2i001i002i003");
        DUE.is("a leaf as the root", flat.runScript(1, 90000L), -1);
        DUE.is("behind a split it is none", flat.runScript(2, 3000090000L), 1);
    }

    private static void otherGroups() {
        long[] other = {11025, 19025, 21010, 31000, 30100, 30010, 30001, 41001, 40101, 50100, 50010, 50001, 60101, 60901,
            71010, 80100, 80010, 80101, 91001, 90101, 90010, 90011, 90109, 99999};
        for (long group : other) {
            command(group, false);
        }
    }

    private static void simulate() {
        DUE.is("simulate(1, 99) of a new object", new LanternTree().simulate(1L, 99), 19036);
        long[] seeds = {0L, 1L, -1L, 5L, 42L, Long.MIN_VALUE, Long.MAX_VALUE, 123456789012345L};
        for (long seed : seeds) {
            LanternTree tree = Due.garden(TWO_LEAVES);
            LanternTree done = Due.garden(TWO_LEAVES);
            long x = seed;
            for (int m = 1; m <= 99; m++) {
                x = x * 6364136223846793005L + 1442695040888963407L;
                hour(done, (int) (x >>> 33));
                int due = 1000 * (done.about(2) - 3) + done.about(1);
                DUE.is("simulate(" + seed + ", " + m + ")", tree.simulate(seed, m), due);
            }
            DUE.is("about(1) all the same", tree.about(1), 4);
            DUE.throwsState("undo(), for it is no action", tree::undo);
        }
    }

    private static void hour(LanternTree tree, int r) {
        int key = r / 4 % 1000;
        if (r % 4 == 2) {
            tree.remove(key);
        } else if (r % 4 == 3) {
            tree.tend();
        } else {
            try {
                tree.insert(key);
            } catch (IllegalStateException e) {
                DUE.is("a full leaf throws", tree.about(7) > 0 ? 1 : 0, 1);
            }
        }
    }

    private static void simulateLimits() {
        LanternTree tree = new LanternTree();
        int[] wrong = {0, -1, 100, Integer.MIN_VALUE, Integer.MAX_VALUE};
        for (int m : wrong) {
            DUE.throwsArgument("simulate(1, " + m + ")", () -> tree.simulate(1L, m));
        }
    }

    private static void save() {
        LanternTree tree = Due.garden(TWO_LEAVES);
        DUE.is("save(0)", tree.save(0), 4);
        tree.insert(5);
        DUE.is("save(1)", tree.save(1), 5);
        DUE.is("undo() behind save", tree.undo(), 0);
        DUE.throwsState("undo(), for save is no action", tree::undo);
        int[] wrong = {-1, 2, Integer.MIN_VALUE, Integer.MAX_VALUE};
        for (int slot : wrong) {
            DUE.throwsIndex("save(" + slot + ")", () -> tree.save(slot));
            DUE.throwsIndex("restore(" + slot + ")", () -> tree.restore(slot));
        }
        DUE.is("restore(1)", tree.restore(1), 5);
        DUE.is("restore(0)", tree.restore(0), 4);
        tree.remove(10);
        DUE.is("save(0) over the old one", tree.save(0), 3);
        tree.insert(7);
        DUE.is("restore(0) of the new one", tree.restore(0), 3);
    }

    private static void restore() {
        LanternTree tree = Due.garden(TWO_LEAVES);
        tree.clearText();
        tree.append('x');
        tree.insert(5);
        DUE.throwsState("restore(0) of nothing", () -> tree.restore(0));
        DUE.is("undo() all the same", tree.undo(), 0);
        tree.save(0);
        DUE.throwsState("restore(1) of nothing", () -> tree.restore(1));
        tree.night(5);
        tree.addReader(1);
        tree.insert(35);
        tree.tend();
        DUE.is("restore(0)", tree.restore(0), 4);
        int[] about = {2, 4, 3, 0, 2, 1, 2, 0, 1, 0, 1};
        for (int what = 0; what < about.length; what++) {
            DUE.is("restored: about(" + what + ")", tree.about(what), about[what]);
        }
        int[] reader = {2, 40, 0, 0, 0, 4000};
        for (int what = 0; what < reader.length; what++) {
            DUE.is("restored: reader(0, " + what + ")", tree.reader(0, what), reader[what]);
        }
        DUE.throwsIndex("restored: reader(1, 0)", () -> tree.reader(1, 0));
        DUE.throwsState("restored: undo()", tree::undo);
        tree.remove(10);
        DUE.is("restore(0) once more", tree.restore(0), 4);
        DUE.is("the text is no part of it", tree.clearText(), 1);
        Due.write(tree, "L4");
        tree.load();
        DUE.throwsState("restore(0) behind load()", () -> tree.restore(0));
        DUE.is("save(1) behind load()", tree.save(1), 0);
        DUE.is("restore(1) behind load()", tree.restore(1), 0);
        DUE.throwsState("restore(0) still", () -> tree.restore(0));
    }

    private static void restoreOfInnerNodes() {
        LanternTree tree = Due.garden("L2i000i001i002ti003ti004t");
        tree.tend();
        tree.save(0);
        tree.undo();
        tree.insert(5);
        DUE.is("tend() makes leaf 5", tree.tend(), 104);
        DUE.is("child(5, 0) of a leaf", tree.child(5, 0), -1);
        tree.restore(0);
        DUE.is("child(5, 0)", tree.child(5, 0), 3);
        DUE.is("child(6, 0)", tree.child(6, 0), 2);
        DUE.is("find(4)", tree.find(4), 2004);
    }

    private static void restoreOfMerges() {
        LanternTree tree = Due.garden("L2i010i020i030tr030d010td020i040d030");
        tree.clearText();
        tree.save(0);
        tree.tend();
        tree.step(0);
        tree.save(1);
        DUE.is("lost once", tree.reader(0, 4), 1);
        for (int key = 100; key < 103; key++) {
            tree.insert(key);
        }
        DUE.is("tend() splits the new root", tree.tend(), 100);
        DUE.is("child(4, 0)", tree.child(4, 0), 0);
        DUE.is("restore(0)", tree.restore(0), 1);
        DUE.is("before: about(9)", tree.about(9), 1);
        DUE.is("before: node(1, 4)", tree.node(1, 4), 1);
        DUE.is("before: node(2, 4)", tree.node(2, 4), 0);
        DUE.is("before: child(2, 0)", tree.child(2, 0), 0);
        DUE.is("before: reader(0, 4)", tree.reader(0, 4), 0);
        DUE.is("restore(1)", tree.restore(1), 1);
        DUE.is("behind: node(2, 4)", tree.node(2, 4), 1);
        DUE.is("behind: reader(0, 4)", tree.reader(0, 4), 1);
        Due.write(tree, "L2i010i020i030t");
        tree.load();
        DUE.is("loaded: about(9)", tree.about(9), 0);
        DUE.is("loaded: about(3)", tree.about(3), 0);
        DUE.is("loaded: node(1, 4)", tree.node(1, 4), 0);
        tree.save(1);
        tree.remove(10);
        DUE.is("tend() merges", tree.tend(), 200);
        DUE.is("restore(1) of a tree without merges", tree.restore(1), 3);
        DUE.is("restored: about(9)", tree.about(9), 0);
        DUE.is("restored: node(1, 4)", tree.node(1, 4), 0);
    }
}
