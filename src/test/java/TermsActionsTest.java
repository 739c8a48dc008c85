/** Each sentence of "ACTIONS AND UNDO" and "EXCEPTIONS" in the terms. */
public final class TermsActionsTest {
    private static final String ACTIONS = "Terms: ACTIONS AND UNDO";
    private static final String EXCEPTIONS = "Terms: EXCEPTIONS";
    private static final String STATE = "The methods in the section \"actions\" change the state, which consists of everything but the text and the save slots.";
    private static final String EACH_CALL = "Each call of one of them that\ndoes not throw an exception is an action, also if nothing becomes different (undo is none).";
    private static final String AT_MOST_14 = "At most 14\nstates are remembered; when one more is remembered, the oldest one is forgotten.";
    private static final String NAMED_FIRST = "If several exceptions apply to a call, the one that its\ndescription names first is thrown.";
    private static final String CHANGES_NOTHING = "A call that throws an exception changes nothing.";
    private static final String WOULD_BE = "Ahead of the calls `walk`, `work`, `behindNight` the interface says: ---- what would be; these and all following methods up to the save slots change nothing.";

    // Reader 0 (40) on the root, reader 1 that has found 10, and reader 2 that has not found 11.
    private static final String READERS = Gardens.TWO_LEAVES + "r040r010r011s1s1s2s2";

    public static void main(String[] args) {
        Sentences.test(TermsActionsTest.class, args);
    }

    @Sentence(of = ACTIONS, says = STATE)
    static void textIsNotTakenBack(Due due) {
        LanternTree tree = Due.garden("L4");
        tree.insert(5);
        tree.append('t');
        tree.append('x');
        tree.undo();
        due.is("about(1)", tree.about(1), 0);
        due.is("errorPosition()", tree.errorPosition(), 3);
        due.is("clearText()", tree.clearText(), 4);
    }

    @Sentence(of = ACTIONS, says = STATE)
    static void saveSlotsAreNotTakenBack(Due due) {
        LanternTree tree = new LanternTree();
        tree.insert(5);
        tree.save(0);
        tree.undo();
        due.is("about(1)", tree.about(1), 0);
        due.is("restore(0)", tree.restore(0), 1);
        due.text("sorted", Look.sorted(tree), "5");
    }

    @Sentence(of = ACTIONS, says = STATE)
    static void textAndSlotsStayWithRestore(Due due) {
        LanternTree tree = Due.garden("L4i001");
        tree.save(0);
        tree.insert(2);
        tree.save(1);
        tree.append('x');
        due.is("restore(0)", tree.restore(0), 1);
        due.is("errorPosition()", tree.errorPosition(), 6);
        due.is("restore(1)", tree.restore(1), 2);
    }

    @Sentence(of = ACTIONS, says = STATE)
    static void wholeStateIsTakenBack(Due due) {
        LanternTree tree = Due.garden(READERS + "i022i025");
        String before = Look.all(tree);
        tree.night(3);
        tree.send(1, 500);
        tree.pour(2, 99);
        tree.addReader(4);
        tree.remove(40);
        for (int left = 4; left >= 0; left--) {
            due.is("undo()", tree.undo(), left);
        }
        due.text("behind it all", Look.all(tree), before);
    }

    @Sentence(of = ACTIONS, says = STATE)
    static void eachNumberOfAReaderIsTakenBack(Due due) {
        LanternTree tree = Due.garden(Gardens.ROOT_LEFT + "i040t");
        String[] before = new String[3];
        for (int i = 0; i < before.length; i++) {
            before[i] = Look.reader(tree, 0);
            tree.step(0);
            tree.pour(0, 10);
        }
        due.text("at the end", Look.reader(tree, 0), "on 3 for 30 found, 1 steps, 1 times lost, oil 6625");
        for (int i = before.length - 1; i >= 0; i--) {
            tree.undo();
            tree.undo();
            due.text("ahead of step " + i, Look.reader(tree, 0), before[i]);
        }
    }

    private interface Call {
        int on(LanternTree tree);
    }

    private static void isAction(Due due, String told, LanternTree tree, Call call) {
        String before = Look.all(tree);
        call.on(tree);
        due.is("undo() of " + told, tree.undo(), 0);
        due.text("the state behind undo() of " + told, Look.all(tree), before);
        due.throwsState("undo() once more", tree::undo);
    }

    @Sentence(of = ACTIONS, says = EACH_CALL)
    static void eachActionIsTakenBack(Due due) {
        String garden = READERS + "i015i025";
        isAction(due, "insert(50)", Due.garden(garden), tree -> tree.insert(50));
        isAction(due, "remove(10)", Due.garden(garden), tree -> tree.remove(10));
        isAction(due, "tend()", Due.garden(garden), tree -> tree.tend());
        isAction(due, "night(3)", Due.garden(garden), tree -> tree.night(3));
        isAction(due, "addReader(1)", Due.garden(garden), tree -> tree.addReader(1));
        isAction(due, "send(1, 5)", Due.garden(garden), tree -> tree.send(1, 5));
        isAction(due, "step(0)", Due.garden(garden), tree -> tree.step(0));
        isAction(due, "pour(0, 5)", Due.garden(garden), tree -> tree.pour(0, 5));
    }

    @Sentence(of = ACTIONS, says = EACH_CALL)
    static void actionsThatChangeNothing(Due due) {
        String garden = "L2i001r001";
        isAction(due, "insert(1), that it has", Due.garden(garden), tree -> tree.insert(1));
        isAction(due, "remove(2), that it does not have", Due.garden(garden), tree -> tree.remove(2));
        isAction(due, "tend() with nothing to do", Due.garden(garden), tree -> tree.tend());
        isAction(due, "send(0, 1), as it is", Due.garden(garden), tree -> tree.send(0, 1));
        isAction(due, "night(1) with nothing to do", Due.garden("L2i001"), tree -> tree.night(1));
    }

    @Sentence(of = ACTIONS, says = EACH_CALL)
    static void actionsOfReadersThatChangeNothing(Due due) {
        LanternTree dry = Gardens.withADryReader(40);
        dry.step(0);
        forget(dry);
        isAction(due, "step(0) out of oil", dry, tree -> tree.step(0));
        LanternTree full = Due.garden("L2r001");
        full.pour(0, 99);
        full.pour(0, 99);
        forget(full);
        isAction(due, "pour(0, 1) to the brim", full, tree -> tree.pour(0, 1));
    }

    private static void forget(LanternTree tree) {
        tree.save(0);
        tree.restore(0);
    }

    @Sentence(of = ACTIONS, says = EACH_CALL)
    static void undoIsNone(Due due) {
        LanternTree tree = new LanternTree();
        tree.insert(1);
        tree.insert(2);
        due.is("undo()", tree.undo(), 1);
        due.text("sorted", Look.sorted(tree), "1");
        due.is("undo() again", tree.undo(), 0);
        due.text("sorted", Look.sorted(tree), "");
        due.throwsState("undo() of undo()", tree::undo);
    }

    @Sentence(of = ACTIONS, says = EACH_CALL)
    static void callsThatThrowAreNone(Due due) {
        LanternTree tree = Due.garden("L2i001i002i003i004r001s0r002r003r004");
        due.throwsArgument("insert(1000)", () -> tree.insert(1000));
        due.throwsState("insert(5)", () -> tree.insert(5));
        due.throwsArgument("remove(-1)", () -> tree.remove(-1));
        due.throwsArgument("night(0)", () -> tree.night(0));
        due.throwsState("addReader(5)", () -> tree.addReader(5));
        due.throwsIndex("send(4, 1)", () -> tree.send(4, 1));
        due.throwsState("step(0)", () -> tree.step(0));
        due.throwsArgument("pour(0, 100)", () -> tree.pour(0, 100));
        due.throwsState("undo()", tree::undo);
    }

    @Sentence(of = ACTIONS, says = EACH_CALL)
    static void questionsAreNone(Due due) {
        LanternTree tree = Due.garden(READERS);
        Look.all(tree);
        tree.find(10);
        tree.fullness();
        tree.walk(0);
        tree.work();
        tree.behindNight(0, 40);
        tree.runScript(1, 30000L);
        tree.simulate(1L, 9);
        tree.save(0);
        tree.append('t');
        tree.clearText();
        due.throwsState("undo()", tree::undo);
    }

    @Sentence(of = ACTIONS, says = "Before each action, the state is remembered.")
    static void stateBeforeTheAction(Due due) {
        LanternTree tree = new LanternTree();
        for (int key = 1; key <= 3; key++) {
            tree.insert(key);
        }
        String[] before = {"1 2", "1", ""};
        for (String keys : before) {
            tree.undo();
            due.text("sorted", Look.sorted(tree), keys);
        }
    }

    @Sentence(of = ACTIONS, says = "Before each action, the state is remembered.")
    static void actionsBehindUndo(Due due) {
        LanternTree tree = new LanternTree();
        tree.insert(1);
        tree.insert(2);
        tree.undo();
        tree.insert(3);
        tree.insert(4);
        due.is("undo()", tree.undo(), 2);
        due.text("sorted", Look.sorted(tree), "1 3");
        due.is("undo()", tree.undo(), 1);
        due.text("sorted", Look.sorted(tree), "1");
        due.is("undo()", tree.undo(), 0);
        due.text("sorted", Look.sorted(tree), "");
    }

    /** So many actions, each with another key, and undo until it throws. */
    private static void undoAll(Due due, int actions) {
        LanternTree tree = Due.garden("L2r001");
        for (int i = 0; i < actions; i++) {
            tree.send(0, i);
        }
        int left = Math.min(actions, 14);
        for (int i = 1; i <= left; i++) {
            due.is(actions + " actions: undo()", tree.undo(), left - i);
            due.is(actions + " actions: reader(0, 1)", tree.reader(0, 1), actions == i ? 1 : actions - i - 1);
        }
        due.throwsState(actions + " actions: undo() of what is forgotten", tree::undo);
    }

    @Sentence(of = ACTIONS, says = AT_MOST_14)
    static void thirteenActions(Due due) {
        undoAll(due, 13);
    }

    @Sentence(of = ACTIONS, says = AT_MOST_14)
    static void fourteenActions(Due due) {
        undoAll(due, 14);
    }

    @Sentence(of = ACTIONS, says = AT_MOST_14)
    static void fifteenActions(Due due) {
        undoAll(due, 15);
    }

    @Sentence(of = ACTIONS, says = AT_MOST_14)
    static void manyActions(Due due) {
        undoAll(due, 27);
        undoAll(due, 28);
        undoAll(due, 29);
        undoAll(due, 400);
    }

    @Sentence(of = ACTIONS, says = AT_MOST_14)
    static void fullAgainBehindUndo(Due due) {
        LanternTree tree = Due.garden("L2r001");
        for (int i = 100; i < 120; i++) {
            tree.send(0, i);
        }
        for (int i = 0; i < 5; i++) {
            tree.undo();
        }
        due.is("reader(0, 1)", tree.reader(0, 1), 114);
        for (int i = 200; i < 206; i++) {
            tree.send(0, i);
        }
        int[] before = {204, 203, 202, 201, 200, 114, 113, 112, 111, 110, 109, 108, 107, 106};
        for (int i = 0; i < before.length; i++) {
            due.is("undo()", tree.undo(), 13 - i);
            due.is("reader(0, 1)", tree.reader(0, 1), before[i]);
        }
        due.throwsState("undo() of what is forgotten", tree::undo);
    }

    @Sentence(of = ACTIONS, says = "load and restore are not actions.")
    static void loadIsNone(Due due) {
        LanternTree tree = new LanternTree();
        Due.write(tree, "L2i001i002");
        tree.load();
        due.throwsState("undo() behind load()", tree::undo);
        due.is("about(1)", tree.about(1), 2);
    }

    @Sentence(of = ACTIONS, says = "load and restore are not actions.")
    static void restoreIsNone(Due due) {
        LanternTree tree = Due.garden("L2i001");
        tree.save(1);
        tree.insert(2);
        tree.restore(1);
        due.throwsState("undo() behind restore(1)", tree::undo);
        due.is("about(1)", tree.about(1), 1);
    }

    @Sentence(of = EXCEPTIONS, says = "IndexOutOfBoundsException means that a node or a reader does not exist, or that a save slot is not 0 or 1.")
    static void noSuchNode(Due due) {
        LanternTree tree = Due.garden(Gardens.TWO_LEAVES);
        int[] none = {3, -1, 59, 60, Integer.MAX_VALUE, Integer.MIN_VALUE};
        for (int n : none) {
            due.throwsIndex("node(" + n + ", 0)", () -> tree.node(n, 0));
            due.throwsIndex("keyAt(" + n + ", 0)", () -> tree.keyAt(n, 0));
            due.throwsIndex("child(" + n + ", 0)", () -> tree.child(n, 0));
        }
    }

    @Sentence(of = EXCEPTIONS, says = "IndexOutOfBoundsException means that a node or a reader does not exist, or that a save slot is not 0 or 1.")
    static void noSuchReader(Due due) {
        LanternTree tree = Due.garden(READERS);
        int[] none = {3, -1, 4, Integer.MAX_VALUE, Integer.MIN_VALUE};
        for (int r : none) {
            due.throwsIndex("reader(" + r + ", 0)", () -> tree.reader(r, 0));
            due.throwsIndex("send(" + r + ", 0)", () -> tree.send(r, 0));
            due.throwsIndex("step(" + r + ")", () -> tree.step(r));
            due.throwsIndex("pour(" + r + ", 1)", () -> tree.pour(r, 1));
            due.throwsIndex("walk(" + r + ")", () -> tree.walk(r));
            due.throwsIndex("behindNight(" + r + ", 1)", () -> tree.behindNight(r, 1));
        }
    }

    @Sentence(of = EXCEPTIONS, says = "IndexOutOfBoundsException means that a node or a reader does not exist, or that a save slot is not 0 or 1.")
    static void noSuchSlot(Due due) {
        LanternTree tree = new LanternTree();
        int[] none = {-1, 2, 14, 16, Integer.MAX_VALUE, Integer.MIN_VALUE};
        for (int slot : none) {
            due.throwsIndex("save(" + slot + ")", () -> tree.save(slot));
            due.throwsIndex("restore(" + slot + ")", () -> tree.restore(slot));
        }
    }

    @Sentence(of = EXCEPTIONS, says = "IllegalArgumentException means that\nanother argument is out of its range.")
    static void anotherArgument(Due due) {
        LanternTree tree = Due.garden(READERS);
        int[] below = {-1, Integer.MIN_VALUE};
        for (int x : below) {
            due.throwsArgument("append(" + x + ")", () -> tree.append(x));
            due.throwsArgument("about(" + x + ")", () -> tree.about(x));
            due.throwsArgument("node(0, " + x + ")", () -> tree.node(0, x));
            due.throwsArgument("keyAt(0, " + x + ")", () -> tree.keyAt(0, x));
            due.throwsArgument("child(0, " + x + ")", () -> tree.child(0, x));
            due.throwsArgument("sorted(" + x + ")", () -> tree.sorted(x));
            due.throwsArgument("reader(0, " + x + ")", () -> tree.reader(0, x));
            due.throwsArgument("night(" + x + ")", () -> tree.night(x));
            due.throwsArgument("pour(0, " + x + ")", () -> tree.pour(0, x));
            due.throwsArgument("behindNight(0, " + x + ")", () -> tree.behindNight(0, x));
            due.throwsArgument("runScript(" + x + ", 0)", () -> tree.runScript(x, 0L));
            due.throwsArgument("runScript(1, " + x + ")", () -> tree.runScript(1, x));
            due.throwsArgument("simulate(0, " + x + ")", () -> tree.simulate(0L, x));
        }
    }

    @Sentence(of = EXCEPTIONS, says = "IllegalStateException means what the method says.")
    static void everyIllegalState(Due due) {
        LanternTree tree = Due.garden("L2i001i002i003i004r001r002r003r004s0");
        tree.clearText();
        due.throwsState("load()", tree::load);
        due.throwsState("insert(5)", () -> tree.insert(5));
        due.throwsState("addReader(5)", () -> tree.addReader(5));
        due.throwsState("step(0)", () -> tree.step(0));
        due.throwsState("undo()", tree::undo);
        due.throwsState("restore(0)", () -> tree.restore(0));
        due.throwsState("restore(1)", () -> tree.restore(1));
        Due.write(tree, "t".repeat(100));
        due.throwsState("append('t')", () -> tree.append('t'));
    }

    @Sentence(of = EXCEPTIONS, says = NAMED_FIRST)
    static void indexAheadOfArgument(Due due) {
        LanternTree tree = new LanternTree();
        due.throwsIndex("node(1, 6)", () -> tree.node(1, 6));
        due.throwsIndex("node(-1, -1)", () -> tree.node(-1, -1));
        due.throwsIndex("keyAt(1, -1)", () -> tree.keyAt(1, -1));
        due.throwsIndex("child(1, -1)", () -> tree.child(1, -1));
        due.throwsIndex("reader(0, 6)", () -> tree.reader(0, 6));
        due.throwsIndex("send(0, 1000)", () -> tree.send(0, 1000));
        due.throwsIndex("pour(0, 0)", () -> tree.pour(0, 0));
        due.throwsIndex("behindNight(0, 41)", () -> tree.behindNight(0, 41));
    }

    @Sentence(of = EXCEPTIONS, says = NAMED_FIRST)
    static void indexAheadOfState(Due due) {
        LanternTree tree = Due.garden("L2r001s0");
        due.throwsIndex("step(1)", () -> tree.step(1));
        due.throwsIndex("restore(2)", () -> tree.restore(2));
        due.throwsIndex("restore(-1)", () -> tree.restore(-1));
    }

    @Sentence(of = EXCEPTIONS, says = NAMED_FIRST)
    static void argumentAheadOfState(Due due) {
        LanternTree tree = Due.garden("L2i001i002i003i004r001r002r003r004");
        due.throwsArgument("insert(1000)", () -> tree.insert(1000));
        due.throwsArgument("insert(-1)", () -> tree.insert(-1));
        due.throwsArgument("addReader(1000)", () -> tree.addReader(1000));
        due.throwsArgument("addReader(-1)", () -> tree.addReader(-1));
        tree.clearText();
        Due.write(tree, "t".repeat(100));
        due.throwsArgument("append(256)", () -> tree.append(256));
        due.throwsArgument("append(-1)", () -> tree.append(-1));
    }

    @Sentence(of = EXCEPTIONS, says = CHANGES_NOTHING)
    static void wrongActionsChangeNothing(Due due) {
        LanternTree tree = Due.garden("L2i001i002i003i004r001r002r003r004s0");
        String before = Look.all(tree);
        due.throwsArgument("insert(1000)", () -> tree.insert(1000));
        due.throwsState("insert(5)", () -> tree.insert(5));
        due.throwsArgument("remove(1000)", () -> tree.remove(1000));
        due.throwsArgument("night(41)", () -> tree.night(41));
        due.throwsState("addReader(5)", () -> tree.addReader(5));
        due.throwsIndex("send(4, 5)", () -> tree.send(4, 5));
        due.throwsArgument("send(0, 1000)", () -> tree.send(0, 1000));
        due.throwsState("step(0)", () -> tree.step(0));
        due.throwsArgument("pour(0, 100)", () -> tree.pour(0, 100));
        due.throwsState("undo()", tree::undo);
        due.text("the state", Look.all(tree), before);
    }

    @Sentence(of = EXCEPTIONS, says = CHANGES_NOTHING)
    static void whatIsRememberedStays(Due due) {
        LanternTree tree = Due.garden("L2r500");
        tree.clearText();
        for (int key = 0; key < 14; key++) {
            tree.send(0, key);
        }
        due.throwsArgument("insert(1000)", () -> tree.insert(1000));
        due.throwsArgument("night(0)", () -> tree.night(0));
        due.throwsState("restore(0)", () -> tree.restore(0));
        due.throwsState("load()", tree::load);
        due.is("undo()", tree.undo(), 13);
        due.is("reader(0, 1)", tree.reader(0, 1), 12);
    }

    @Sentence(of = EXCEPTIONS, says = CHANGES_NOTHING)
    static void wrongTextCallsChangeNothing(Due due) {
        LanternTree tree = Due.garden("L2i001");
        tree.save(0);
        tree.insert(2);
        due.throwsArgument("append(256)", () -> tree.append(256));
        due.is("errorPosition()", tree.errorPosition(), -1);
        tree.append('x');
        String before = Look.all(tree);
        due.throwsState("load()", tree::load);
        due.text("the state", Look.all(tree), before);
        due.is("undo()", tree.undo(), 0);
        due.is("restore(0)", tree.restore(0), 1);
        Due.write(tree, "y".repeat(93));
        due.throwsState("append('t')", () -> tree.append('t'));
        due.is("clearText()", tree.clearText(), 100);
    }

    @Sentence(of = EXCEPTIONS, says = CHANGES_NOTHING)
    static void wrongSlotCallsChangeNothing(Due due) {
        LanternTree tree = Due.garden("L2i001");
        tree.save(1);
        tree.insert(2);
        String before = Look.all(tree);
        due.throwsIndex("save(2)", () -> tree.save(2));
        due.throwsIndex("restore(2)", () -> tree.restore(2));
        due.throwsState("restore(0)", () -> tree.restore(0));
        due.text("the state", Look.all(tree), before);
        due.is("undo()", tree.undo(), 0);
        due.is("restore(1)", tree.restore(1), 1);
        due.throwsState("restore(0) still", () -> tree.restore(0));
    }

    @Sentence(of = EXCEPTIONS, says = "The constants: `NONE = -1`: There is no such result.")
    static void none(Due due) {
        due.is("NONE", LanternTree.NONE, -1);
        due.is("tend()", new LanternTree().tend(), LanternTree.NONE);
    }

    @Sentence(of = EXCEPTIONS, says = WOULD_BE)
    static void whatWouldBeChangesNothing(Due due) {
        LanternTree tree = Due.garden(READERS + "i015i025");
        tree.clearText();
        Due.write(tree, "L3x");
        tree.insert(50);
        String before = Look.all(tree);
        tree.walk(0);
        tree.work();
        tree.behindNight(0, 40);
        tree.runScript(3, 100603000040009L);
        tree.runScript(3, 200105000060199L);
        tree.simulate(5L, 99);
        due.text("the state", Look.all(tree), before);
        due.is("undo()", tree.undo(), 0);
        due.throwsState("restore(0)", () -> tree.restore(0));
        due.throwsState("restore(1)", () -> tree.restore(1));
    }
}
