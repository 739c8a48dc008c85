import java.util.ArrayList;
import java.util.List;

/**
 * Long runs of calls that a fixed sequence of numbers chooses; LanternTree and PlainModel must answer
 * every one of them alike, exceptions included. Promises 1 to 29.
 */
public final class PlainModelTest {
    private static final int CALLS = 512;
    private static final int WRONG_RUNS_TOLD = 5;

    private static final String[] ALL = {"append", "clearText", "errorPosition", "load", "about", "node", "keyAt",
        "child", "find", "sorted", "fullness", "reader", "insert", "remove", "tend", "night", "addReader", "send",
        "step", "pour", "undo", "walk", "work", "behindNight", "runScript", "simulate", "save", "restore"};

    // How often each of the calls above is chosen, by the kind of run.
    private static final int[][] KINDS = {
        {0, 0, 0, 0, 6, 6, 6, 6, 4, 3, 2, 4, 60, 10, 40, 2, 3, 3, 8, 2, 2, 2, 2, 1, 2, 1, 1, 1},
        {0, 0, 0, 0, 6, 8, 6, 6, 4, 3, 2, 4, 50, 50, 60, 4, 3, 6, 30, 4, 2, 2, 2, 2, 2, 1, 1, 1},
        {0, 0, 0, 0, 4, 4, 4, 4, 4, 3, 2, 9, 30, 30, 30, 9, 4, 9, 40, 9, 4, 9, 2, 9, 2, 1, 1, 1},
        {5, 1, 9, 2, 4, 4, 4, 4, 4, 3, 2, 4, 20, 20, 20, 4, 4, 4, 20, 4, 9, 4, 4, 4, 40, 9, 9, 9},
        {0, 0, 0, 0, 3, 3, 3, 3, 3, 3, 2, 3, 90, 4, 20, 0, 0, 0, 0, 0, 1, 0, 1, 0, 2, 1, 0, 0},
        {0, 0, 0, 0, 5, 5, 5, 5, 5, 3, 2, 5, 20, 60, 70, 1, 1, 6, 30, 1, 1, 2, 2, 2, 2, 1, 0, 0},
    };

    private long x;
    private int next;
    private final int kind;
    private final int keys;

    private PlainModelTest(long seed) {
        x = seed * 0x9E3779B97F4A7C15L + 1;
        kind = (int) (seed % KINDS.length);
        int[] widths = {12, 40, 120, 1000};
        keys = widths[(int) (seed / KINDS.length % widths.length)];
    }

    public static void main(String[] args) {
        int runs = args.length > 0 ? Integer.parseInt(args[0]) : 1500;
        int from = args.length > 1 ? Integer.parseInt(args[1]) : 0;
        int wrong = 0;
        for (int i = 0; i < runs && wrong < WRONG_RUNS_TOLD; i++) {
            String told = new PlainModelTest(from + i).run();
            if (told != null) {
                wrong++;
                System.out.println("run " + (from + i) + ": " + told);
            }
        }
        System.out.println(wrong == 0 ? runs + " runs are as due" : "some runs are not as due");
        if (wrong != 0) {
            System.exit(1);
        }
    }

    /** What was wrong, or null. */
    private String run() {
        LanternTree tree = new LanternTree();
        PlainModel model = new PlainModel();
        List<String> names = new ArrayList<>();
        List<long[]> arguments = new ArrayList<>();
        if (below(8) > 0) {
            writeGarden(names, arguments);
        }
        StringBuilder told = new StringBuilder();
        for (int i = 0; i < CALLS; i++) {
            if (i >= names.size()) {
                names.add(chooseName());
                arguments.add(chooseArguments(names.get(i)));
            }
            String due = dueAnswer(model, names.get(i), arguments.get(i));
            String got = gotAnswer(tree, names.get(i), arguments.get(i));
            told.append(names.get(i)).append(java.util.Arrays.toString(arguments.get(i))).append(' ');
            if (!got.equals(due)) {
                return told + "answered " + got + ", due is " + due;
            }
        }
        return null;
    }

    private int below(int n) {
        x = x * 6364136223846793005L + 1442695040888963407L;
        return (int) ((x >>> 33) % n);
    }

    private void writeGarden(List<String> names, List<long[]> arguments) {
        StringBuilder text = new StringBuilder("L").append(2 + below(5));
        int length = below(110);
        while (text.length() < length) {
            text.append(command());
        }
        if (below(4) == 0 && text.length() > 0) {
            text.setCharAt(below(text.length()), "Litdrs0123456789x\n".charAt(below(18)));
        }
        if (below(3) > 0) {
            while (text.length() > 100 && text.length() > 2) {
                text.setLength(text.length() - 1);
            }
        }
        for (int i = 0; i < text.length(); i++) {
            names.add("append");
            arguments.add(new long[] {text.charAt(i)});
        }
        names.add("errorPosition");
        arguments.add(new long[0]);
        names.add("load");
        arguments.add(new long[0]);
    }

    private String command() {
        int c = below(12);
        String key = String.valueOf(1000 + key()).substring(1);
        return c < 4 ? "i" + key : c < 5 ? "d" + key : c < 9 ? "t" : c < 10 ? "r" + key : "s" + below(4);
    }

    private String chooseName() {
        int[] weights = KINDS[kind];
        int sum = 0;
        for (int w : weights) {
            sum += w;
        }
        int left = below(sum);
        for (int i = 0; i < weights.length; i++) {
            left -= weights[i];
            if (left < 0) {
                return ALL[i];
            }
        }
        return ALL[0];
    }

    private int key() {
        next = (next + 7) % keys;
        return kind == 4 && below(3) > 0 ? next : below(keys);
    }

    private long wild(int count) {
        long[] edges = {-1, count, Integer.MIN_VALUE, Integer.MAX_VALUE, count + 1};
        return below(40) == 0 ? edges[below(edges.length)] : below(count);
    }

    private long wildKey() {
        return below(40) == 0 ? wild(1000) : key();
    }

    private long wildNight() {
        long[] edges = {0, -1, 41, 40, 1};
        return below(12) == 0 ? edges[below(5)] : 1 + below(6);
    }

    private long[] chooseArguments(String name) {
        switch (name) {
            case "append":
                return new long[] {below(3) > 0 ? "Litdrs0123456789".charAt(below(16)) : wild(256)};
            case "about":
                return new long[] {wild(11)};
            case "node":
                return new long[] {wild(60), wild(6)};
            case "keyAt":
            case "child":
                return new long[] {below(3) > 0 ? below(20) : wild(60), below(3) > 0 ? below(4) : wild(20)};
            case "sorted":
                return new long[] {wild(60)};
            case "find":
            case "insert":
            case "remove":
            case "addReader":
                return new long[] {wildKey()};
            case "reader":
                return new long[] {wild(4), wild(6)};
            case "send":
                return new long[] {wild(4), wildKey()};
            case "step":
            case "walk":
                return new long[] {wild(4)};
            case "pour":
                return new long[] {wild(4), below(3) > 0 ? 1 + below(9) : wild(101)};
            case "night":
                return new long[] {wildNight()};
            case "behindNight":
                return new long[] {wild(4), wildNight()};
            case "simulate":
                return new long[] {x * 31, wild(101)};
            case "save":
            case "restore":
                return new long[] {wild(2)};
            case "runScript":
                int n = 1 + below(3);
                return new long[] {below(20) == 0 ? wild(5) : n, script(n)};
            default:
                return new long[0];
        }
    }

    private long script(int groups) {
        if (below(25) == 0) {
            long[] edges = {-1, 99999, 100000, 9999999999L, 10000000000L, 999999999999999L, 1000000000000000L,
                Long.MAX_VALUE, Long.MIN_VALUE, 0};
            return edges[below(edges.length)];
        }
        long script = 0;
        for (int i = 0; i < groups; i++) {
            script = script * 100000 + group();
        }
        return script;
    }

    private int group() {
        int r = below(4) * 1000;
        if (below(12) == 0) {
            return below(100000);
        }
        switch (1 + below(9)) {
            case 1:
                return 10000 + key();
            case 2:
                return 20000 + key();
            case 3:
                return 30000;
            case 4:
                return 40000 + below(43);
            case 5:
                return 50000 + r;
            case 6:
                return 60000 + r + below(100);
            case 7:
                return 70000 + key();
            case 8:
                return 80000 + r + below(5);
            default:
                return 90000 + below(5);
        }
    }

    private static String dueAnswer(PlainModel model, String name, long[] a) {
        try {
            return String.valueOf(model.answer(name, a));
        } catch (IllegalArgumentException | IllegalStateException | IndexOutOfBoundsException e) {
            return e.getClass().getSimpleName();
        }
    }

    private static String gotAnswer(LanternTree tree, String name, long[] a) {
        try {
            return String.valueOf(call(tree, name, a));
        } catch (RuntimeException e) {
            return e.getClass().getSimpleName();
        }
    }

    private static long call(LanternTree tree, String name, long[] a) {
        int x = a.length > 0 ? (int) a[0] : 0;
        int y = a.length > 1 ? (int) a[1] : 0;
        switch (name) {
            case "append": return tree.append(x);
            case "clearText": return tree.clearText();
            case "errorPosition": return tree.errorPosition();
            case "load": return tree.load();
            case "about": return tree.about(x);
            case "node": return tree.node(x, y);
            case "keyAt": return tree.keyAt(x, y);
            case "child": return tree.child(x, y);
            case "find": return tree.find(x);
            case "sorted": return tree.sorted(x);
            case "fullness": return Float.floatToIntBits(tree.fullness());
            case "reader": return tree.reader(x, y);
            case "insert": return tree.insert(x);
            case "remove": return tree.remove(x);
            case "tend": return tree.tend();
            case "night": return tree.night(x);
            case "addReader": return tree.addReader(x);
            case "send": return tree.send(x, y);
            case "step": return tree.step(x);
            case "pour": return tree.pour(x, y);
            case "undo": return tree.undo();
            case "walk": return tree.walk(x);
            case "work": return tree.work();
            case "behindNight": return tree.behindNight(x, y);
            case "runScript": return tree.runScript(x, a[1]);
            case "simulate": return tree.simulate(a[0], y);
            case "save": return tree.save(x);
            case "restore": return tree.restore(x);
            default: throw new UnsupportedOperationException(name);
        }
    }
}
