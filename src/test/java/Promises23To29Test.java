import java.math.BigInteger;

/** Each sentence of the promises 23 to 29: what would be, scripts, simulations, and save slots. */
public final class Promises23To29Test {
    private static final String P23 = "Promise 23: walk";
    private static final String P24 = "Promise 24: work";
    private static final String P25 = "Promise 25: behindNight";
    private static final String P26 = "Promise 26: runScript";
    private static final String P27 = "Promise 27: simulate";
    private static final String P28 = "Promise 28: save";
    private static final String P29 = "Promise 29: restore";
    private static final String READER = "`r`: reader";
    private static final String NO_READER = "Throws `IndexOutOfBoundsException` if there is no such reader";
    private static final String WALK = "Returns how many steps it would take (those by which it is lost, and the one by which it finds its key or not, included) until it has found its key or not, if nothing else happened; 0 if it has; NONE if it would be out of oil.";
    private static final String WORK = "Returns how many times tend() could be called until it returns NONE.";
    private static final String BEHIND = "Returns what reader(r, 2) would be behind night(n).";
    private static final String GROUPS = "A script has 1 to 3 commands; each is a group of five decimal digits d1 to d5, and the first command is\nthe highest group of the number (with zeros before it, if it has fewer digits).";
    private static final String FAIL = "The commands 1 to 6 fail if the method would throw an exception, 1 and 2 also if it would return NONE;";
    private static final String OTHER = "and so does any other group (also one\nwith another digit where a 0 is written).";
    private static final String WRONG_SCRIPT = "Throws `IllegalArgumentException` if n is out of range, or if script is negative or has more than 5 * n digits";
    private static final String HOUR = "A long x starts as the seed. Before each hour, x is replaced by x * 6364136223846793005L +\n1442695040888963407L (with long overflow), and r = (int) (x >>> 33) is computed.";
    private static final String KEPT = "Stores the present state in a save slot.";
    private static final String BACK = "Replaces the state by the one in a save slot, and forgets all remembered states.";
    private static final String SLOT = "`slot`: 0 or 1";
    private static final String NO_SLOT = "Throws `IndexOutOfBoundsException` if there is no such save slot";

    // Reader 0 (40) on the root, and reader 1 that has found 10.
    private static final String TWO_READERS = Gardens.TWO_LEAVES + "r040r010s1s1";

    public static void main(String[] args) {
        Sentences.test(Promises23To29Test.class, args);
    }

    @Sentence(of = P23, says = "Tells how long a reader would still walk.")
    static void walkChangesNothing(Due due) {
        LanternTree tree = Due.garden(Gardens.ROOT_LEFT);
        String before = Look.all(tree);
        due.is("walk(0)", tree.walk(0), 2);
        due.is("walk(0) again", tree.walk(0), 2);
        due.text("the state", Look.all(tree), before);
    }

    @Sentence(of = P23, says = READER)
    static void walkOfTheLastReader(Due due) {
        LanternTree tree = Due.garden(Gardens.TWO_LEAVES + "r040r040r040s0s0s1r010");
        int[] steps = {0, 1, 2, 2};
        for (int r = 0; r < steps.length; r++) {
            due.is("walk(" + r + ")", tree.walk(r), steps[r]);
        }
    }

    @Sentence(of = P23, says = WALK)
    static void walkToAKeyAndToNone(Due due) {
        due.is("a leaf with the key", Due.garden("L2i010r010").walk(0), 1);
        due.is("a leaf without it", Due.garden("L2i010r011").walk(0), 1);
        due.is("down two levels", Due.garden(Gardens.THREE_LEVELS + "r003").walk(0), 3);
        due.is("down two levels, to no key", Due.garden(Gardens.THREE_LEVELS + "r999").walk(0), 3);
        due.is("to the right thrice", Due.garden("L2i000i001i002r004ti003ti004t").walk(0), 4);
    }

    @Sentence(of = P23, says = WALK)
    static void walkOfOneThatIsDone(Due due) {
        due.is("it has found its key", Due.garden("L2i010r010s0").walk(0), 0);
        due.is("it has not found it", Due.garden("L2i010r011s0").walk(0), 0);
    }

    @Sentence(of = P23, says = WALK)
    static void walkOfOneThatIsLost(Due due) {
        due.is("lost, then found", Due.garden(Gardens.ROOT_LEFT).walk(0), 2);
        due.is("lost, then down to a leaf", Due.garden(Gardens.ROOT_LEFT + "i040t").walk(0), 3);
        due.is("found, having been lost", Due.garden(Gardens.ROOT_LEFT + "s0").walk(0), 1);
    }

    @Sentence(of = P23, says = WALK)
    static void walkThatEndsWithoutOil(Due due) {
        LanternTree tree = Gardens.withADryReader(40);
        due.is("reader(0, 2)", tree.reader(0, 2), 0);
        due.is("it would be out of oil", tree.walk(0), -1);
        tree.step(0);
        due.is("it is out of oil", tree.walk(0), -1);
        tree.pour(0, 1);
        due.is("0.35 is too little", tree.walk(0), -1);
        LanternTree below = Gardens.withADryReaderBelow();
        below.send(0, 0);
        due.is("out of oil behind its first step", below.walk(0), -1);
    }

    @Sentence(of = P23, says = WALK)
    static void walkOfOneThatHasNewOil(Due due) {
        LanternTree tree = Gardens.withADryReader(40);
        tree.step(0);
        tree.pour(0, 2);
        due.is("reader(0, 2)", tree.reader(0, 2), 3);
        due.is("walk(0)", tree.walk(0), 2);
    }

    @Sentence(of = P23, says = WALK)
    static void walkWithJustEnoughOil(Due due) {
        LanternTree tree = Gardens.withADryReaderOnALeaf();
        due.is("oil", tree.reader(0, 5), 250);
        due.is("walk(0)", tree.walk(0), 2);
    }

    @Sentence(of = P23, says = WALK)
    static void gardenersDoNothingMeanwhile(Due due) {
        LanternTree tree = Due.garden("L2i010i020i030i040r040");
        due.is("walk(0) ahead of a split", tree.walk(0), 1);
        tree.tend();
        due.is("walk(0) behind it", tree.walk(0), 2);
    }

    @Sentence(of = P23, says = NO_READER)
    static void walkOfNoReader(Due due) {
        LanternTree tree = Due.garden("L2r001r001");
        int[] none = {-1, 2, 3, 4, Integer.MIN_VALUE, Integer.MAX_VALUE};
        for (int r : none) {
            due.throwsIndex("walk(" + r + ")", () -> tree.walk(r));
        }
    }

    @Sentence(of = P24, says = "Tells how much the gardeners have to do.")
    static void workChangesNothing(Due due) {
        LanternTree tree = Due.garden("L2i010i020i030i040r030");
        String before = Look.all(tree);
        due.is("work()", tree.work(), 1);
        due.is("work() again", tree.work(), 1);
        due.text("the state", Look.all(tree), before);
    }

    @Sentence(of = P24, says = WORK)
    static void noWork(Due due) {
        due.is("a new object", new LanternTree().work(), 0);
        due.is("M keys", Due.garden("L2i010i020").work(), 0);
        due.is("no room for nodes", Gardens.ofNodes(59).work(), 0);
        due.is("a reader stands there", Due.garden("L2i010i020i030tr010s0d010").work(), 0);
    }

    @Sentence(of = P24, says = WORK)
    static void jobsThatFollowOneAnother(Due due) {
        due.is("one split", Due.garden("L2i010i020i030").work(), 1);
        due.is("a merge, and the root is left", Due.garden("L2i010i020i030td010").work(), 2);
        due.is("the root is left", Due.garden("L2i010i020i030td010t").work(), 1);
        due.is("leaf 0, leaf 1, the root", Due.garden(Gardens.TWO_LEAVES + "i005i050").work(), 3);
    }

    @Sentence(of = P24, says = WORK)
    static void asManyJobsAsTold(Due due) {
        LanternTree tree = Due.garden("L2i000i001i002ti003ti004td000d001d002d003d004");
        due.is("work()", tree.work(), 3);
        int[] done = {102, 200, 203, -1};
        for (int d : done) {
            due.is("tend()", tree.tend(), d);
        }
        due.is("work() then", tree.work(), 0);
    }

    @Sentence(of = P24, says = WORK)
    static void mostWork(Due due) {
        LanternTree tree = Gardens.ofNodes(60);
        for (int key = 0; key < 60; key++) {
            tree.remove(key);
        }
        due.is("58 merges, and the root is left", tree.work(), 59);
    }

    @Sentence(of = P25, says = "Tells whether a night would let a reader find its key.")
    static void behindNightChangesNothing(Due due) {
        LanternTree tree = Due.garden("L2i010i020i030r030r025");
        String before = Look.all(tree);
        tree.behindNight(0, 40);
        due.text("the state", Look.all(tree), before);
        due.throwsState("undo()", tree::undo);
    }

    @Sentence(of = P25, says = READER)
    static void behindNightOfTheLastReader(Due due) {
        LanternTree tree = Due.garden("L2i010r011r011r011r010");
        due.is("behindNight(3, 1)", tree.behindNight(3, 1), 1);
        due.is("behindNight(2, 1)", tree.behindNight(2, 1), 2);
    }

    @Sentence(of = P25, says = "`n`: 1 to 40")
    static void behindTheShortestAndTheLongestNight(Due due) {
        LanternTree tree = Due.garden(Gardens.TWO_LEAVES + "r040");
        due.is("behindNight(0, 1)", tree.behindNight(0, 1), 0);
        due.is("behindNight(0, 2)", tree.behindNight(0, 2), 1);
        due.is("behindNight(0, 40)", tree.behindNight(0, 40), 1);
    }

    @Sentence(of = P25, says = BEHIND)
    static void eachMoodBehindANight(Due due) {
        LanternTree tree = Due.garden("L2i010i020i030i040r030r025");
        due.is("it walks", tree.behindNight(0, 1), 0);
        due.is("it has found its key", tree.behindNight(0, 2), 1);
        due.is("it has not found it", tree.behindNight(1, 1), 2);
        due.is("it is out of oil", Gardens.withADryReader(40).behindNight(0, 1), 3);
    }

    @Sentence(of = P25, says = BEHIND)
    static void asBehindTheNightItself(Due due) {
        String[] gardens = {Gardens.ROOT_LEFT, TWO_READERS + "d020d030", "L2i000i001i002i003r003r000",
            Gardens.THREE_LEVELS + "d000d002r004r000"};
        for (String garden : gardens) {
            for (int n = 1; n <= 6; n++) {
                LanternTree tree = Due.garden(garden);
                int would = tree.behindNight(0, n);
                tree.night(n);
                due.is("behindNight(0, " + n + ") of " + garden, would, tree.reader(0, 2));
            }
        }
    }

    @Sentence(of = P25, says = NO_READER)
    static void behindNightOfNoReader(Due due) {
        LanternTree tree = Due.garden("L2r001r001");
        int[] none = {-1, 2, 3, 4, Integer.MIN_VALUE, Integer.MAX_VALUE};
        for (int r : none) {
            due.throwsIndex("behindNight(" + r + ", 1)", () -> tree.behindNight(r, 1));
            due.throwsIndex("behindNight(" + r + ", 0)", () -> tree.behindNight(r, 0));
        }
    }

    @Sentence(of = P25, says = "Throws `IllegalArgumentException` if n is out of range")
    static void behindANightTooShortOrTooLong(Due due) {
        LanternTree tree = Due.garden("L2r001s0");
        int[] wrong = {0, -1, 41, Integer.MIN_VALUE, Integer.MAX_VALUE};
        for (int n : wrong) {
            due.throwsArgument("behindNight(0, " + n + ")", () -> tree.behindNight(0, n));
        }
    }

    /** A script of one command, on TWO_READERS. */
    private static void succeeds(Due due, long... groups) {
        for (long group : groups) {
            due.is("runScript(1, " + group + ")", Due.garden(TWO_READERS).runScript(1, group), -1);
        }
    }

    private static void fails(Due due, long... groups) {
        for (long group : groups) {
            due.is("runScript(1, " + group + ")", Due.garden(TWO_READERS).runScript(1, group), 0);
        }
    }

    @Sentence(of = P26, says = "Runs a script on a copy of the state.")
    static void scriptChangesNothing(Due due) {
        LanternTree tree = Due.garden(TWO_READERS);
        String before = Look.all(tree);
        due.is("insert, tend, night", tree.runScript(3, 100253000040009L), -1);
        due.is("remove, pour, step", tree.runScript(3, 200106009950000L), -1);
        due.text("the state", Look.all(tree), before);
        due.throwsState("undo()", tree::undo);
    }

    @Sentence(of = P26, says = "Runs a script on a copy of the state.")
    static void commandsSeeWhatWasDoneAhead(Due due) {
        LanternTree tree = Due.garden(TWO_READERS);
        due.is("insert(25), has 25, remove(25)", tree.runScript(3, 100257002520025L), -1);
        due.is("has 25", tree.runScript(1, 70025L), 0);
        due.is("step(0), step(0), found", tree.runScript(3, 500005000080001L), -1);
        due.is("reader 0 walks", tree.runScript(1, 80000L), -1);
    }

    @Sentence(of = P26, says = GROUPS)
    static void oneToThreeCommands(Due due) {
        LanternTree tree = Due.garden(TWO_READERS);
        due.is("one", tree.runScript(1, 30000L), -1);
        due.is("two", tree.runScript(2, 3000030000L), -1);
        due.is("three", tree.runScript(3, 300003000030000L), -1);
    }

    @Sentence(of = P26, says = GROUPS)
    static void highestGroupFirst(Due due) {
        LanternTree tree = Due.garden(TWO_READERS);
        due.is("insert(25), has 25", tree.runScript(2, 1002570025L), -1);
        due.is("has 25, insert(25)", tree.runScript(2, 7002510025L), 0);
    }

    @Sentence(of = P26, says = GROUPS)
    static void zerosBeforeTheNumber(Due due) {
        LanternTree tree = Due.garden(TWO_READERS);
        due.is("one command of 00000", tree.runScript(1, 0L), 0);
        due.is("one command of 01234", tree.runScript(1, 1234L), 0);
        due.is("00000 and tend()", tree.runScript(2, 30000L), 0);
        due.is("00000 twice and tend()", tree.runScript(3, 30000L), 0);
        due.is("three of 00000", tree.runScript(3, 0L), 0);
    }

    @Sentence(of = P26, says = "1 0 x y z: insert(xyz).")
    static void commandInsert(Due due) {
        succeeds(due, 10000, 10999, 10025, 10001);
        fails(due, 11025, 19025);
        due.is("insert(025), has 025", Due.garden(TWO_READERS).runScript(2, 1002570025L), -1);
    }

    @Sentence(of = P26, says = "2 0 x y z: remove(xyz).")
    static void commandRemove(Due due) {
        succeeds(due, 20010, 20040);
        fails(due, 21010, 29010);
        due.is("remove(010), has 010", Due.garden(TWO_READERS).runScript(2, 2001070010L), 1);
    }

    @Sentence(of = P26, says = "3 0 0 0 0: tend().")
    static void commandTend(Due due) {
        succeeds(due, 30000);
        fails(due, 31000, 30100, 30010, 30001, 39999);
        due.is("of a leaf too full", Due.garden("L2i001i002i003").runScript(2, 3000090000L), 1);
        due.is("with nothing to do", new LanternTree().runScript(1, 30000L), -1);
    }

    @Sentence(of = P26, says = "4 0 0 x y: night(xy).")
    static void commandNight(Due due) {
        succeeds(due, 40001, 40002, 40040);
        fails(due, 40000, 40041, 40099, 40101, 41001, 49040);
        due.is("night(01), found", Due.garden(TWO_READERS).runScript(2, 4000180001L), 1);
        due.is("night(02), found", Due.garden(TWO_READERS).runScript(2, 4000280001L), -1);
    }

    @Sentence(of = P26, says = "5 r 0 0 0: step(r).")
    static void commandStep(Due due) {
        succeeds(due, 50000);
        fails(due, 50001, 50010, 50100, 50999);
        due.is("two steps, three", Due.garden(TWO_READERS).runScript(3, 500005000050000L), 2);
        due.is("reader 3", Due.garden("L2r000r001r002r003").runScript(2, 5300083002L), -1);
    }

    @Sentence(of = P26, says = "6 r 0 x y: pour(r, xy).")
    static void commandPour(Due due) {
        succeeds(due, 60001, 60099, 61001, 61099);
        fails(due, 60000, 61000, 60101, 60901);
        LanternTree dry = Gardens.withADryReader(40);
        due.is("pour(0, 01), step(0), walks", dry.runScript(3, 600015000080000L), 2);
        due.is("pour(0, 02), step(0), walks", dry.runScript(3, 600025000080000L), -1);
    }

    @Sentence(of = P26, says = "7 0 x y z: succeeds if the tree has the key xyz.")
    static void commandHas(Due due) {
        succeeds(due, 70010, 70020, 70030, 70040);
        fails(due, 70000, 70011, 70999, 71010, 79010);
        due.is("a key that only the root has", Due.garden(Gardens.TWO_LEAVES + "d030").runScript(1, 70030L), 0);
        due.is("the least key", Due.garden("L2i000").runScript(1, 70000L), -1);
        due.is("the greatest key", Due.garden("L2i999").runScript(1, 70999L), -1);
    }

    @Sentence(of = P26, says = "8 r 0 0 s: succeeds if reader(r,\n2) is s.")
    static void commandMood(Due due) {
        succeeds(due, 80000, 81001);
        fails(due, 80001, 80002, 80003, 80004, 80009, 81000, 81002, 81003, 80010, 80100, 81011, 81101);
        due.is("not found", Due.garden("L2r001s0").runScript(1, 80002L), -1);
        LanternTree dry = Gardens.withADryReader(40);
        dry.step(0);
        due.is("out of oil", dry.runScript(1, 80003L), -1);
    }

    @Sentence(of = P26, says = "9 0 0 0 n: succeeds if the level of the root is at most n.")
    static void commandLevel(Due due) {
        succeeds(due, 90001, 90002, 90009);
        fails(due, 90000, 90010, 90011, 90101, 91001, 99999);
        due.is("level 0", new LanternTree().runScript(1, 90000L), -1);
        due.is("level 2, at most 1", Due.garden(Gardens.THREE_LEVELS).runScript(1, 90001L), 0);
        due.is("level 2, at most 2", Due.garden(Gardens.THREE_LEVELS).runScript(1, 90002L), -1);
    }

    @Sentence(of = P26, says = FAIL)
    static void insertThatThrowsOrReturnsNone(Due due) {
        fails(due, 10010, 10040);
        LanternTree full = Due.garden("L2i001i002i003i004");
        due.is("a full leaf", full.runScript(1, 10005L), 0);
        due.is("a full leaf that has the key", full.runScript(1, 10004L), 0);
        due.is("a full leaf that is split before", full.runScript(2, 3000010005L), -1);
    }

    @Sentence(of = P26, says = FAIL)
    static void removeThatReturnsNone(Due due) {
        fails(due, 20000, 20011, 20999);
        due.is("a key that only the root has", Due.garden(Gardens.TWO_LEAVES + "d030").runScript(1, 20030L), 0);
    }

    @Sentence(of = P26, says = FAIL)
    static void tendAndNightThatChangeNothing(Due due) {
        due.is("tend() that returns NONE", new LanternTree().runScript(1, 30000L), -1);
        due.is("night(1) that returns 0", new LanternTree().runScript(1, 40001L), -1);
    }

    @Sentence(of = P26, says = FAIL)
    static void nightStepAndPourThatThrow(Due due) {
        fails(due, 40000, 40041, 40099, 51000, 60000, 61000);
        due.is("step of one that has not found", Due.garden("L2r001s0").runScript(1, 50000L), 0);
        LanternTree dry = Gardens.withADryReader(40);
        due.is("step of one that is out of oil then", dry.runScript(3, 500005000080003L), -1);
    }

    @Sentence(of = P26, says = "commands with readers that do not exist fail,")
    static void commandsWithNoReader(Due due) {
        fails(due, 52000, 53000, 54000, 59000, 62001, 64001, 69001, 82000, 83000, 84000, 89000);
        LanternTree none = new LanternTree();
        due.is("step(0)", none.runScript(1, 50000L), 0);
        due.is("pour(0, 1)", none.runScript(1, 60001L), 0);
        due.is("reader(0, 2) is 0", none.runScript(1, 80000L), 0);
        LanternTree loaded = Due.garden("L2r001s0");
        loaded.clearText();
        Due.write(loaded, "L2");
        loaded.load();
        due.is("reader(0, 2) of one that was", loaded.runScript(1, 80002L), 0);
    }

    @Sentence(of = P26, says = OTHER)
    static void groupsThatBeginWith0(Due due) {
        fails(due, 0, 1, 10, 999, 1000, 9999);
    }

    @Sentence(of = P26, says = OTHER)
    static void anotherDigitThan0(Due due) {
        fails(due, 11025, 12025, 21010, 31000, 30100, 30010, 30001, 41001, 40101, 50100, 50010, 50001, 60101, 71010,
            80100, 80010, 91001, 90101, 90011);
    }

    @Sentence(of = P26, says = "xy and xyz are decimal numbers.")
    static void decimalNumbers(Due due) {
        succeeds(due, 40010, 40039, 70010);
        due.is("insert(008), has 008", new LanternTree().runScript(2, 1000870008L), -1);
        due.is("insert(100), has 100", new LanternTree().runScript(2, 1010070100L), -1);
        due.is("insert(100), has 010", new LanternTree().runScript(2, 1010070010L), 1);
    }

    @Sentence(of = P26, says = "`n`: number of commands, 1 to 3")
    static void onlyTheLastGroupsOfTheNumber(Due due) {
        due.is("one, the greatest", new LanternTree().runScript(1, 99999L), 0);
        due.is("three, fewest digits", new LanternTree().runScript(3, 1L), 0);
    }

    @Sentence(of = P26, says = "`script`: the commands, a number of at most 5 * n digits (0 or more)")
    static void mostDigits(Due due) {
        LanternTree tree = new LanternTree();
        due.is("5 digits", tree.runScript(1, 99999L), 0);
        due.is("10 digits", tree.runScript(2, 9999999999L), 0);
        due.is("15 digits", tree.runScript(3, 999999999999999L), 0);
        due.is("10 digits, as far as the second", tree.runScript(2, 3000099999L), 1);
        due.is("15 digits, as far as the third", tree.runScript(3, 300003000099999L), 2);
        due.is("0", tree.runScript(1, 0L), 0);
    }

    @Sentence(of = P26, says = "Returns the index, from 0, of the first command that fails; NONE if all succeed.")
    static void indexOfTheFirstThatFails(Due due) {
        LanternTree tree = new LanternTree();
        due.is("none", tree.runScript(3, 300003000030000L), -1);
        due.is("the third", tree.runScript(3, 300003000000000L), 2);
        due.is("the second", tree.runScript(3, 300000000030000L), 1);
        due.is("the second and the third", tree.runScript(3, 300000000000000L), 1);
        due.is("the first", tree.runScript(3, 3000030000L), 0);
        due.is("all", tree.runScript(3, 0L), 0);
    }

    @Sentence(of = P26, says = WRONG_SCRIPT)
    static void tooFewOrTooManyCommands(Due due) {
        LanternTree tree = new LanternTree();
        int[] wrong = {0, -1, 4, Integer.MIN_VALUE, Integer.MAX_VALUE};
        for (int n : wrong) {
            due.throwsArgument("runScript(" + n + ", 0)", () -> tree.runScript(n, 0L));
            due.throwsArgument("runScript(" + n + ", 30000)", () -> tree.runScript(n, 30000L));
        }
    }

    @Sentence(of = P26, says = WRONG_SCRIPT)
    static void negativeScript(Due due) {
        LanternTree tree = new LanternTree();
        for (int n = 1; n <= 3; n++) {
            int commands = n;
            due.throwsArgument("runScript(" + n + ", -1)", () -> tree.runScript(commands, -1L));
            due.throwsArgument("runScript(" + n + ", -30000)", () -> tree.runScript(commands, -30000L));
            due.throwsArgument("runScript(" + n + ", least)", () -> tree.runScript(commands, Long.MIN_VALUE));
        }
    }

    @Sentence(of = P26, says = WRONG_SCRIPT)
    static void oneDigitTooMany(Due due) {
        LanternTree tree = new LanternTree();
        due.throwsArgument("6 digits", () -> tree.runScript(1, 100000L));
        due.throwsArgument("11 digits", () -> tree.runScript(2, 10000000000L));
        due.throwsArgument("16 digits", () -> tree.runScript(3, 1000000000000000L));
        due.throwsArgument("as many as can be", () -> tree.runScript(3, Long.MAX_VALUE));
        due.throwsArgument("4294967296 + 30000, no int", () -> tree.runScript(1, 4294997296L));
    }

    /** r of each hour, without long arithmetic. */
    private static int[] hours(long seed, int m) {
        BigInteger all = BigInteger.ONE.shiftLeft(64);
        BigInteger x = BigInteger.valueOf(seed).mod(all);
        int[] r = new int[m];
        for (int i = 0; i < m; i++) {
            x = x.multiply(BigInteger.valueOf(6364136223846793005L)).add(BigInteger.valueOf(1442695040888963407L)).mod(all);
            r[i] = x.shiftRight(33).intValueExact();
        }
        return r;
    }

    /** The least seed from 0 on whose first hour has this r % 4, and a key from the first to the last. */
    private static long seedOf(int rest, int first, int last) {
        long seed = 0;
        int r = hours(seed, 1)[0];
        while (r % 4 != rest || r / 4 % 1000 < first || r / 4 % 1000 > last) {
            seed++;
            r = hours(seed, 1)[0];
        }
        return seed;
    }

    /** What is due for simulate(seed, m) of a garden: the same is done to an object of its own. */
    private static int simulated(String garden, long seed, int m) {
        LanternTree tree = Due.garden(garden);
        int made = tree.about(2);
        for (int r : hours(seed, m)) {
            try {
                hour(tree, r % 4, r / 4 % 1000);
            } catch (IllegalStateException e) {
                // It is left out.
                continue;
            }
        }
        return 1000 * (tree.about(2) - made) + tree.about(1);
    }

    private static void hour(LanternTree tree, int kind, int key) {
        if (kind == 2) {
            tree.remove(key);
        } else if (kind == 3) {
            tree.tend();
        } else {
            tree.insert(key);
        }
    }

    @Sentence(of = P27, says = "Simulates m hours on a copy of the state.")
    static void simulationChangesNothing(Due due) {
        LanternTree tree = Due.garden(TWO_READERS);
        String before = Look.all(tree);
        due.is("simulate(7, 99)", tree.simulate(7L, 99), tree.simulate(7L, 99));
        due.text("the state", Look.all(tree), before);
        due.throwsState("undo()", tree::undo);
    }

    @Sentence(of = P27, says = HOUR)
    static void overflowOfEachKindOfSeed(Due due) {
        long[] seeds = {0L, 1L, -1L, 2L, Long.MAX_VALUE, Long.MIN_VALUE, Long.MAX_VALUE - 1, Long.MIN_VALUE + 1,
            1L << 33, (1L << 33) - 1, 6364136223846793005L, -1442695040888963407L};
        String[] gardens = {"L3", "L2i001i002i003i004", TWO_READERS};
        for (long seed : seeds) {
            for (String garden : gardens) {
                due.is("simulate(" + seed + ", 25)", Due.garden(garden).simulate(seed, 25), simulated(garden, seed, 25));
            }
        }
    }

    @Sentence(of = P27, says = HOUR)
    static void hourOfANegativeX(Due due) {
        // x >>> 33 of a negative x is 2^30 and more, so that r is never negative.
        long seed = 0;
        while (hours(seed, 1)[0] < 1 << 30 || hours(seed, 1)[0] % 4 != 1) {
            seed++;
        }
        int key = hours(seed, 1)[0] / 4 % 1000;
        due.is("key " + key, new LanternTree().simulate(seed, 1), 1);
        due.is("x is negative", seed * 6364136223846793005L + 1442695040888963407L < 0 ? 1 : 0, 1);
        String has = "L3i" + String.valueOf(1000 + key).substring(1);
        due.is("a tree that has the key", Due.garden(has).simulate(seed, 1), 1);
    }

    @Sentence(of = P27, says = "By r % 4: 0 and 1: the key r / 4 % 1000 is inserted; 2: the key r / 4 % 1000 is removed; 3: the gardeners tend the tree.")
    static void eachKindOfHour(Due due) {
        LanternTree tree = Due.garden("L2i010i020i030");
        due.is("0", tree.simulate(seedOf(0, 100, 999), 1), 4);
        due.is("1", tree.simulate(seedOf(1, 100, 999), 1), 4);
        due.is("2", tree.simulate(seedOf(2, 20, 20), 1), 2);
        due.is("3", tree.simulate(seedOf(3, 0, 999), 1), 2003);
    }

    @Sentence(of = P27, says = "By r % 4: 0 and 1: the key r / 4 % 1000 is inserted; 2: the key r / 4 % 1000 is removed; 3: the gardeners tend the tree.")
    static void hoursThatChangeNothing(Due due) {
        LanternTree tree = Due.garden("L2i010i020");
        due.is("0, a key that it has", tree.simulate(seedOf(0, 10, 10), 1), 2);
        due.is("2, a key that it does not have", tree.simulate(seedOf(2, 100, 999), 1), 2);
        due.is("3, nothing to do", tree.simulate(seedOf(3, 0, 999), 1), 2);
    }

    @Sentence(of = P27, says = "By r % 4: 0 and 1: the key r / 4 % 1000 is inserted; 2: the key r / 4 % 1000 is removed; 3: the gardeners tend the tree.")
    static void leastAndGreatestKeyOfAnHour(Due due) {
        LanternTree tree = Due.garden("L3i000i999");
        due.is("key 0 is there", tree.simulate(seedOf(0, 0, 0), 1), 2);
        due.is("key 999 is there", tree.simulate(seedOf(1, 999, 999), 1), 2);
        due.is("key 0 goes", tree.simulate(seedOf(2, 0, 0), 1), 1);
        due.is("key 999 goes", tree.simulate(seedOf(2, 999, 999), 1), 1);
    }

    @Sentence(of = P27, says = "What would throw\nan exception is left out.")
    static void hourWithAFullLeaf(Due due) {
        LanternTree tree = Due.garden("L2i001i002i003i004");
        due.is("a key into a full leaf", tree.simulate(seedOf(0, 100, 999), 1), 4);
        due.is("a key that it has", tree.simulate(seedOf(1, 1, 4), 1), 4);
        long seed = seedOf(0, 100, 999);
        due.is("it goes on behind it", tree.simulate(seed, 40), simulated("L2i001i002i003i004", seed, 40));
    }

    @Sentence(of = P27, says = "`seed`: any long")
    static void leastAndGreatestSeed(Due due) {
        due.is("greatest", new LanternTree().simulate(Long.MAX_VALUE, 30), simulated("L3", Long.MAX_VALUE, 30));
        due.is("least", new LanternTree().simulate(Long.MIN_VALUE, 30), simulated("L3", Long.MIN_VALUE, 30));
    }

    @Sentence(of = P27, says = "`m`: number of hours, 1 to 99")
    static void fewestAndMostHours(Due due) {
        due.is("one", Due.garden("L2").simulate(5L, 1), simulated("L2", 5L, 1));
        due.is("99", Due.garden("L2").simulate(5L, 99), simulated("L2", 5L, 99));
    }

    @Sentence(of = P27, says = "Returns 1000 * (the nodes that are made in them) + (the keys that the tree has at the end).")
    static void onlyNodesMadeInThem(Due due) {
        LanternTree tree = Due.garden(Gardens.THREE_LEVELS);
        due.is("none made", tree.simulate(seedOf(3, 0, 999), 1), 5);
        due.is("many hours", tree.simulate(11L, 60), simulated(Gardens.THREE_LEVELS, 11L, 60));
    }

    @Sentence(of = P27, says = "Returns 1000 * (the nodes that are made in them) + (the keys that the tree has at the end).")
    static void noMoreThan60NodesInThem(Due due) {
        LanternTree tree = Gardens.ofNodes(59);
        for (long seed = 0; seed < 20; seed++) {
            due.is("simulate(" + seed + ", 99) makes more", tree.simulate(seed, 99) / 1000 > 1 ? 1 : 0, 0);
        }
    }

    @Sentence(of = P27, says = "Throws `IllegalArgumentException` if m is out of range")
    static void tooFewOrTooManyHours(Due due) {
        LanternTree tree = new LanternTree();
        int[] wrong = {0, -1, 100, Integer.MIN_VALUE, Integer.MAX_VALUE};
        for (int m : wrong) {
            due.throwsArgument("simulate(0, " + m + ")", () -> tree.simulate(0L, m));
        }
    }

    @Sentence(of = P28, says = KEPT)
    static void saveKeepsTheWholeState(Due due) {
        LanternTree tree = Due.garden(Gardens.ROOT_LEFT + "s0");
        String saved = Look.all(tree);
        tree.save(0);
        tree.insert(40);
        tree.night(9);
        tree.addReader(1);
        tree.restore(0);
        due.text("the state", Look.all(tree), saved);
    }

    @Sentence(of = P28, says = KEPT)
    static void saveOverAnotherState(Due due) {
        LanternTree tree = new LanternTree();
        tree.save(0);
        tree.insert(1);
        tree.save(0);
        tree.insert(2);
        due.is("restore(0)", tree.restore(0), 1);
    }

    @Sentence(of = P28, says = KEPT)
    static void saveForgetsNothing(Due due) {
        LanternTree tree = new LanternTree();
        tree.insert(1);
        tree.save(1);
        due.is("undo()", tree.undo(), 0);
        due.throwsState("undo() again", tree::undo);
    }

    @Sentence(of = P28, says = SLOT)
    static void bothSlotsToSave(Due due) {
        LanternTree tree = new LanternTree();
        due.is("save(0)", tree.save(0), 0);
        tree.insert(1);
        due.is("save(1)", tree.save(1), 1);
        due.is("restore(0)", tree.restore(0), 0);
        due.is("restore(1)", tree.restore(1), 1);
    }

    @Sentence(of = P28, says = "Returns the number of keys.")
    static void keysThatAreSaved(Due due) {
        due.is("none", new LanternTree().save(0), 0);
        due.is("without keys of gone leaves", Due.garden(Gardens.ROOT_LEFT).save(1), 2);
        due.is("60", Gardens.ofNodes(60).save(0), 60);
    }

    @Sentence(of = P28, says = NO_SLOT)
    static void saveInNoSlot(Due due) {
        LanternTree tree = new LanternTree();
        int[] none = {-1, 2, Integer.MIN_VALUE, Integer.MAX_VALUE};
        for (int slot : none) {
            due.throwsIndex("save(" + slot + ")", () -> tree.save(slot));
        }
    }

    @Sentence(of = P29, says = BACK)
    static void restoreReplacesTheWholeState(Due due) {
        LanternTree tree = Due.garden(Gardens.THREE_LEVELS + "r004s0");
        String saved = Look.all(tree);
        tree.save(1);
        for (int key = 0; key < 5; key++) {
            tree.remove(key);
        }
        tree.send(0, 5);
        tree.night(5);
        tree.restore(1);
        due.text("the state", Look.all(tree), saved);
    }

    @Sentence(of = P29, says = BACK)
    static void restoreForgets(Due due) {
        LanternTree tree = new LanternTree();
        tree.save(0);
        for (int i = 0; i < 20; i++) {
            tree.remove(i);
        }
        tree.restore(0);
        due.throwsState("undo()", tree::undo);
        tree.insert(1);
        due.is("undo() of what came then", tree.undo(), 0);
        due.throwsState("undo() again", tree::undo);
    }

    @Sentence(of = P29, says = BACK)
    static void restoreOfASmallerTree(Due due) {
        LanternTree tree = new LanternTree();
        tree.save(0);
        for (int key = 0; key < 4; key++) {
            tree.insert(key);
        }
        tree.tend();
        tree.addReader(1);
        due.is("restore(0)", tree.restore(0), 0);
        due.throwsIndex("node(1, 0)", () -> tree.node(1, 0));
        due.throwsIndex("reader(0, 0)", () -> tree.reader(0, 0));
    }

    @Sentence(of = P29, says = "The save slot keeps it.")
    static void restoreTwice(Due due) {
        LanternTree tree = Due.garden("L2i001");
        tree.save(0);
        tree.insert(2);
        due.is("restore(0)", tree.restore(0), 1);
        tree.insert(3);
        tree.insert(4);
        due.is("restore(0) again", tree.restore(0), 1);
        due.text("sorted", Look.sorted(tree), "1");
    }

    @Sentence(of = P29, says = SLOT)
    static void bothSlotsToRestore(Due due) {
        LanternTree tree = new LanternTree();
        tree.insert(1);
        tree.save(1);
        due.throwsState("restore(0)", () -> tree.restore(0));
        due.is("restore(1)", tree.restore(1), 1);
        tree.insert(2);
        tree.save(0);
        due.is("restore(1) still", tree.restore(1), 1);
        due.is("restore(0) then", tree.restore(0), 2);
    }

    @Sentence(of = P29, says = "Returns the number of keys then.")
    static void keysThatAreRestored(Due due) {
        LanternTree tree = Due.garden("L2i001i002i003");
        tree.save(0);
        tree.remove(1);
        due.is("restore(0)", tree.restore(0), 3);
    }

    @Sentence(of = P29, says = NO_SLOT)
    static void restoreOfNoSlot(Due due) {
        LanternTree tree = new LanternTree();
        tree.save(0);
        tree.save(1);
        int[] none = {-1, 2, Integer.MIN_VALUE, Integer.MAX_VALUE};
        for (int slot : none) {
            due.throwsIndex("restore(" + slot + ")", () -> tree.restore(slot));
        }
    }

    @Sentence(of = P29, says = "Throws `IllegalStateException` if nothing has been saved in it since the last load")
    static void nothingWasSaved(Due due) {
        LanternTree tree = new LanternTree();
        due.throwsState("restore(0) of a new object", () -> tree.restore(0));
        due.throwsState("restore(1) of a new object", () -> tree.restore(1));
        tree.save(0);
        due.throwsState("restore(1), for 0 was saved", () -> tree.restore(1));
        due.is("restore(0)", tree.restore(0), 0);
    }

    @Sentence(of = P29, says = "Throws `IllegalStateException` if nothing has been saved in it since the last load")
    static void nothingWasSavedSinceLoad(Due due) {
        LanternTree tree = Due.garden("L2i001");
        tree.save(0);
        tree.save(1);
        tree.load();
        due.throwsState("restore(0) behind load()", () -> tree.restore(0));
        due.throwsState("restore(1) behind load()", () -> tree.restore(1));
        tree.save(0);
        due.is("restore(0) saved since", tree.restore(0), 1);
    }

    @Sentence(of = P29, says = "Throws `IllegalStateException` if nothing has been saved in it since the last load")
    static void loadThatThrowsEmptiesNoSlot(Due due) {
        LanternTree tree = new LanternTree();
        tree.insert(1);
        tree.save(0);
        due.throwsState("load()", tree::load);
        due.is("restore(0)", tree.restore(0), 1);
    }
}
