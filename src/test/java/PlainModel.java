import java.util.ArrayDeque;
import java.util.ArrayList;
import java.util.List;

/**
 * The document once more, as plainly as it can be written: nodes with lists of keys and of children,
 * and a whole copy for each state. It is slow, and shares no code with LanternTree.
 */
final class PlainModel {
    static final class Node {
        int level;
        List<Integer> keys = new ArrayList<>();
        List<Integer> children = new ArrayList<>();
        int bound = -1;
        int link = -1;
        boolean gone;

        Node copy() {
            Node c = new Node();
            c.level = level;
            c.keys = new ArrayList<>(keys);
            c.children = new ArrayList<>(children);
            c.bound = bound;
            c.link = link;
            c.gone = gone;
            return c;
        }

        int childFor(int key) {
            int smaller = 0;
            for (int k : keys) {
                if (k <= key) {
                    smaller++;
                }
            }
            return children.get(smaller);
        }

        boolean ends(int key) {
            return bound != -1 && bound <= key;
        }
    }

    static final class Reader {
        int node;
        int key;
        int mood;
        int steps;
        int lost;
        float oil = 4.0f;

        Reader copy() {
            Reader c = new Reader();
            c.node = node;
            c.key = key;
            c.mood = mood;
            c.steps = steps;
            c.lost = lost;
            c.oil = oil;
            return c;
        }
    }

    static final class State {
        int order = 3;
        int root;
        int splits;
        int merges;
        List<Node> nodes = new ArrayList<>();
        List<Reader> readers = new ArrayList<>();

        State(int order) {
            this.order = order;
            nodes.add(new Node());
        }

        State copy() {
            State c = new State(order);
            c.root = root;
            c.splits = splits;
            c.merges = merges;
            c.nodes.clear();
            for (Node n : nodes) {
                c.nodes.add(n.copy());
            }
            for (Reader r : readers) {
                c.readers.add(r.copy());
            }
            return c;
        }

        Node leafFor(int key, int[] steps) {
            Node n = nodes.get(root);
            while (n.ends(key) || n.level > 0) {
                n = nodes.get(n.ends(key) ? n.link : n.childFor(key));
                steps[0]++;
            }
            return n;
        }

        List<Node> levelFromLeft(int level) {
            Node n = nodes.get(root);
            while (n.level > level) {
                n = nodes.get(n.children.get(0));
            }
            List<Node> row = new ArrayList<>();
            row.add(n);
            while (n.link != -1) {
                n = nodes.get(n.link);
                row.add(n);
            }
            return row;
        }

        List<Integer> treeKeys() {
            List<Integer> keys = new ArrayList<>();
            for (Node leaf : levelFromLeft(0)) {
                keys.addAll(leaf.keys);
            }
            return keys;
        }

        int insert(int key) {
            range(key, 0, 999);
            Node leaf = leafFor(key, new int[1]);
            if (leaf.keys.contains(key)) {
                return -1;
            }
            if (leaf.keys.size() == 2 * order) {
                throw new IllegalStateException();
            }
            leaf.keys.add(key);
            leaf.keys.sort(null);
            return nodes.indexOf(leaf);
        }

        int remove(int key) {
            range(key, 0, 999);
            Node leaf = leafFor(key, new int[1]);
            return leaf.keys.remove((Integer) key) ? nodes.indexOf(leaf) : -1;
        }

        int tend() {
            for (int level = 0; level <= nodes.get(root).level; level++) {
                for (Node n : levelFromLeft(level)) {
                    if (n.keys.size() > order) {
                        int made = nodes.indexOf(n) == root ? 2 : 1;
                        if (nodes.size() + made <= 60) {
                            return split(n);
                        }
                    }
                }
            }
            List<Node> leaves = levelFromLeft(0);
            for (int i = 0; i + 1 < leaves.size(); i++) {
                Node a = leaves.get(i);
                Node b = leaves.get(i + 1);
                Node parent = parentOf(a);
                int together = a.keys.size() + b.keys.size();
                boolean few = a.keys.size() < order / 2 || b.keys.size() < order / 2;
                if (parent == parentOf(b) && together <= order && few && empty(a) && empty(b)) {
                    return merge(a, b, parent);
                }
            }
            Node top = nodes.get(root);
            if (top.level > 0 && top.children.size() == 1) {
                top.gone = true;
                root = top.children.get(0);
                return 300 + root;
            }
            return -1;
        }

        boolean empty(Node n) {
            for (Reader r : readers) {
                if (nodes.get(r.node) == n) {
                    return false;
                }
            }
            return true;
        }

        Node parentOf(Node n) {
            for (Node p : nodes) {
                if (!p.gone && p.children.contains(nodes.indexOf(n))) {
                    return p;
                }
            }
            return null;
        }

        int split(Node n) {
            Node parent = parentOf(n);
            Node fresh = new Node();
            int number = nodes.indexOf(n);
            int freshNumber = nodes.size();
            nodes.add(fresh);
            fresh.level = n.level;
            fresh.bound = n.bound;
            fresh.link = n.link;
            int half = n.keys.size() / 2;
            if (n.level == 0) {
                fresh.keys = new ArrayList<>(n.keys.subList(half, n.keys.size()));
                n.bound = fresh.keys.get(0);
            } else {
                fresh.keys = new ArrayList<>(n.keys.subList(half + 1, n.keys.size()));
                fresh.children = new ArrayList<>(n.children.subList(half + 1, n.children.size()));
                n.children = new ArrayList<>(n.children.subList(0, half + 1));
                n.bound = n.keys.get(half);
            }
            n.keys = new ArrayList<>(n.keys.subList(0, half));
            n.link = freshNumber;
            if (number == root) {
                Node top = new Node();
                top.level = n.level + 1;
                top.children.add(number);
                top.children.add(freshNumber);
                top.keys.add(n.bound);
                root = nodes.size();
                nodes.add(top);
            } else {
                int place = parent.children.indexOf(number);
                parent.children.add(place + 1, freshNumber);
                parent.keys.add(place, n.bound);
            }
            splits++;
            return 100 + number;
        }

        int merge(Node a, Node b, Node parent) {
            a.keys.addAll(b.keys);
            a.bound = b.bound;
            a.link = b.link;
            b.gone = true;
            int place = parent.children.indexOf(nodes.indexOf(b));
            parent.children.remove(place);
            parent.keys.remove(place - 1);
            merges++;
            return 200 + nodes.indexOf(a);
        }

        int night(int n) {
            range(n, 1, 40);
            for (int i = 0; i < n; i++) {
                tend();
                for (int r = 0; r < readers.size(); r++) {
                    if (readers.get(r).mood == 0 || readers.get(r).mood == 3) {
                        step(r);
                    }
                }
            }
            int found = 0;
            for (Reader r : readers) {
                found += r.mood == 1 ? 1 : 0;
            }
            return found;
        }

        int addReader(int key) {
            range(key, 0, 999);
            if (readers.size() == 4) {
                throw new IllegalStateException();
            }
            Reader r = new Reader();
            r.key = key;
            r.node = root;
            readers.add(r);
            return readers.size() - 1;
        }

        int send(int r, int key) {
            there(r, readers.size());
            range(key, 0, 999);
            Reader reader = readers.get(r);
            int before = reader.key;
            reader.key = key;
            reader.node = root;
            reader.mood = 0;
            reader.steps = 0;
            reader.lost = 0;
            return before;
        }

        int step(int r) {
            there(r, readers.size());
            Reader reader = readers.get(r);
            if (reader.mood == 1 || reader.mood == 2) {
                throw new IllegalStateException();
            }
            Node n = nodes.get(reader.node);
            if (n.gone) {
                reader.node = root;
                reader.mood = 0;
                reader.lost++;
            } else if (n.level == 0 && !n.ends(reader.key)) {
                reader.mood = n.keys.contains(reader.key) ? 1 : 2;
            } else {
                float cost = 0.25f + 0.125f * (float) n.level;
                if (reader.oil < cost) {
                    reader.mood = 3;
                } else {
                    reader.oil = reader.oil - cost;
                    reader.node = n.ends(reader.key) ? n.link : n.childFor(reader.key);
                    reader.mood = 0;
                    reader.steps++;
                }
            }
            return reader.node;
        }

        int pour(int r, int tenths) {
            there(r, readers.size());
            range(tenths, 1, 99);
            Reader reader = readers.get(r);
            reader.oil = reader.oil + (float) tenths / 10.0f;
            if (reader.oil > 16.0f) {
                reader.oil = 16.0f;
            }
            return (int) (reader.oil * 1000.0f);
        }

        int reader(int r, int what) {
            there(r, readers.size());
            range(what, 0, 5);
            Reader x = readers.get(r);
            int[] numbers = {x.node, x.key, x.mood, x.steps, x.lost, (int) (x.oil * 1000.0f)};
            return numbers[what];
        }

        boolean succeeds(int d1, int d2, int d3, int d4, int d5) {
            int three = 100 * d3 + 10 * d4 + d5;
            int two = 10 * d4 + d5;
            try {
                if (d1 == 1 && d2 == 0) {
                    return insert(three) != -1;
                } else if (d1 == 2 && d2 == 0) {
                    return remove(three) != -1;
                } else if (d1 == 3 && d2 == 0 && three == 0) {
                    tend();
                    return true;
                } else if (d1 == 4 && d2 == 0 && d3 == 0) {
                    night(two);
                    return true;
                } else if (d1 == 5 && three == 0) {
                    step(d2);
                    return true;
                } else if (d1 == 6 && d3 == 0) {
                    pour(d2, two);
                    return true;
                } else if (d1 == 7 && d2 == 0) {
                    return treeKeys().contains(three);
                } else if (d1 == 8 && d3 == 0 && d4 == 0) {
                    return reader(d2, 2) == d5;
                } else if (d1 == 9 && d2 == 0 && d3 == 0 && d4 == 0) {
                    return nodes.get(root).level <= d5;
                }
                return false;
            } catch (IllegalArgumentException | IllegalStateException | IndexOutOfBoundsException e) {
                return false;
            }
        }
    }

    private final StringBuilder text = new StringBuilder();
    private State now = new State(3);
    private final ArrayDeque<State> past = new ArrayDeque<>();
    private final State[] slots = new State[2];

    static void range(int x, int from, int to) {
        if (x < from || x > to) {
            throw new IllegalArgumentException();
        }
    }

    static void there(int x, int count) {
        if (x < 0 || x >= count) {
            throw new IndexOutOfBoundsException();
        }
    }

    /** The answer to a call of the face, by its name. */
    long answer(String name, long[] a) {
        int x = a.length > 0 ? (int) a[0] : 0;
        int y = a.length > 1 ? (int) a[1] : 0;
        switch (name) {
            case "append":
                return append(x);
            case "clearText":
                int before = text.length();
                text.setLength(0);
                return before;
            case "errorPosition":
                return errorPosition();
            case "load":
                return load();
            case "about":
                return about(x);
            case "node":
                return node(x, y);
            case "keyAt":
                there(x, now.nodes.size());
                range(y, 0, Integer.MAX_VALUE);
                return y < now.nodes.get(x).keys.size() ? now.nodes.get(x).keys.get(y) : -1;
            case "child":
                there(x, now.nodes.size());
                range(y, 0, Integer.MAX_VALUE);
                return y < now.nodes.get(x).children.size() ? now.nodes.get(x).children.get(y) : -1;
            case "find":
                return find(x);
            case "sorted":
                range(x, 0, Integer.MAX_VALUE);
                return x < now.treeKeys().size() ? now.treeKeys().get(x) : -1;
            case "fullness":
                int leaves = now.levelFromLeft(0).size();
                return Float.floatToIntBits((float) now.treeKeys().size() / ((float) (leaves * now.order)));
            case "reader":
                return now.reader(x, y);
            case "walk":
                return walk(x);
            case "work":
                return work();
            case "behindNight":
                there(x, now.readers.size());
                State trial = now.copy();
                trial.night(y);
                return trial.reader(x, 2);
            case "runScript":
                return runScript(x, a[1]);
            case "simulate":
                return simulate(a[0], y);
            case "save":
                there(x, 2);
                slots[x] = now.copy();
                return now.treeKeys().size();
            case "restore":
                there(x, 2);
                if (slots[x] == null) {
                    throw new IllegalStateException();
                }
                now = slots[x].copy();
                past.clear();
                return now.treeKeys().size();
            case "undo":
                if (past.isEmpty()) {
                    throw new IllegalStateException();
                }
                now = past.removeLast();
                return past.size();
            default:
                return action(name, x, y);
        }
    }

    private int action(String name, int x, int y) {
        State before = now.copy();
        int answer = change(name, x, y);
        past.addLast(before);
        if (past.size() > 14) {
            past.removeFirst();
        }
        return answer;
    }

    private int change(String name, int x, int y) {
        switch (name) {
            case "insert":
                return now.insert(x);
            case "remove":
                return now.remove(x);
            case "tend":
                return now.tend();
            case "night":
                return now.night(x);
            case "addReader":
                return now.addReader(x);
            case "send":
                return now.send(x, y);
            case "step":
                return now.step(x);
            case "pour":
                return now.pour(x, y);
            default:
                throw new UnsupportedOperationException(name);
        }
    }

    private int append(int c) {
        range(c, 0, 255);
        if (text.length() == 100) {
            throw new IllegalStateException();
        }
        text.append((char) c);
        return text.length();
    }

    /** The longest beginning of the text that some garden begins with tells where the error is. */
    private int errorPosition() {
        String begun = "(|L|L[2-6]([ird][0-9]{3}|t|s[0-3])*([ird][0-9]{0,2}|s)?)";
        if (text.toString().matches("(?s)L[2-6]([ird][0-9]{3}|t|s[0-3])*")) {
            return -1;
        }
        for (int n = text.length(); n > 0; n--) {
            if (text.substring(0, n).matches("(?s)" + begun)) {
                return n;
            }
        }
        return 0;
    }

    private int load() {
        if (errorPosition() != -1) {
            throw new IllegalStateException();
        }
        now = new State(text.charAt(1) - '0');
        past.clear();
        slots[0] = null;
        slots[1] = null;
        int out = 0;
        String rest = text.substring(2);
        while (!rest.isEmpty()) {
            char c = rest.charAt(0);
            int length = c == 't' ? 1 : c == 's' ? 2 : 4;
            int number = length == 1 ? 0 : Integer.parseInt(rest.substring(1, length));
            rest = rest.substring(length);
            String name = c == 'i' ? "insert" : c == 'd' ? "remove" : c == 't' ? "tend" : c == 'r' ? "addReader" : "step";
            try {
                change(name, number, 0);
            } catch (IllegalStateException | IndexOutOfBoundsException e) {
                out++;
            }
        }
        return out;
    }

    private int about(int what) {
        range(what, 0, 10);
        int gone = 0;
        int tooFull = 0;
        for (Node n : now.nodes) {
            gone += n.gone ? 1 : 0;
            tooFull += n.keys.size() > now.order ? 1 : 0;
        }
        int[] numbers = {now.order, now.treeKeys().size(), now.nodes.size(), gone, now.root,
            now.nodes.get(now.root).level, now.levelFromLeft(0).size(), tooFull, now.splits, now.merges,
            now.readers.size()};
        return numbers[what];
    }

    private int node(int n, int what) {
        there(n, now.nodes.size());
        range(what, 0, 5);
        Node x = now.nodes.get(n);
        int standing = 0;
        for (Reader r : now.readers) {
            standing += r.node == n ? 1 : 0;
        }
        int[] numbers = {x.level, x.keys.size(), x.bound, x.link, x.gone ? 1 : 0, standing};
        return numbers[what];
    }

    private int find(int key) {
        range(key, 0, 999);
        int[] steps = new int[1];
        Node leaf = now.leafFor(key, steps);
        return 1000 * steps[0] + (leaf.keys.contains(key) ? now.nodes.indexOf(leaf) : 999);
    }

    private int walk(int r) {
        there(r, now.readers.size());
        State trial = now.copy();
        int steps = 0;
        while (trial.reader(r, 2) == 0 || trial.reader(r, 2) == 3) {
            trial.step(r);
            if (trial.reader(r, 2) == 3) {
                return -1;
            }
            steps++;
        }
        return steps;
    }

    private int work() {
        State trial = now.copy();
        int jobs = 0;
        while (trial.tend() != -1) {
            jobs++;
        }
        return jobs;
    }

    private int runScript(int n, long script) {
        range(n, 1, 3);
        String digits = String.valueOf(script);
        if (script < 0 || digits.length() > 5 * n) {
            throw new IllegalArgumentException();
        }
        digits = "0".repeat(5 * n - digits.length()) + digits;
        State trial = now.copy();
        for (int i = 0; i < n; i++) {
            int[] d = new int[5];
            for (int k = 0; k < 5; k++) {
                d[k] = digits.charAt(5 * i + k) - '0';
            }
            if (!trial.succeeds(d[0], d[1], d[2], d[3], d[4])) {
                return i;
            }
        }
        return -1;
    }

    private int simulate(long seed, int m) {
        range(m, 1, 99);
        State trial = now.copy();
        long x = seed;
        for (int i = 0; i < m; i++) {
            x = x * 6364136223846793005L + 1442695040888963407L;
            int r = (int) (x >>> 33);
            try {
                if (r % 4 <= 1) {
                    trial.insert(r / 4 % 1000);
                } else if (r % 4 == 2) {
                    trial.remove(r / 4 % 1000);
                } else {
                    trial.tend();
                }
            } catch (IllegalStateException e) {
                continue;
            }
        }
        return 1000 * (trial.nodes.size() - now.nodes.size()) + trial.treeKeys().size();
    }
}
