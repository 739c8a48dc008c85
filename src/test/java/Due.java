/** Compares answers with those that are due, and counts the wrong ones. */
final class Due {
    private int wrong = 0;

    interface Call {
        long answer();
    }

    void is(String call, long got, long due) {
        if (got != due) {
            wrong++;
            System.out.println(call + " answered " + got + ", due is " + due);
        }
    }

    void isFloat(String call, float got, float due) {
        if (got != due) {
            wrong++;
            System.out.println(call + " answered " + got + ", due is " + due);
        }
    }

    void text(String told, String got, String due) {
        if (!got.equals(due)) {
            wrong++;
            System.out.println(told + ": got " + got + ", due is " + due);
        }
    }

    int wrong() {
        return wrong;
    }

    void throwsIndex(String call, Call made) {
        thrown(call, made, "IndexOutOfBoundsException");
    }

    void throwsArgument(String call, Call made) {
        thrown(call, made, "IllegalArgumentException");
    }

    void throwsState(String call, Call made) {
        thrown(call, made, "IllegalStateException");
    }

    /** Ends the program, with exit code 1 if an answer was wrong. */
    void end() {
        System.out.println(wrong == 0 ? "all answers are as due" : wrong + " answers are not as due");
        if (wrong != 0) {
            System.exit(1);
        }
    }

    void thrown(String call, Call made, String name) {
        String got;
        try {
            got = String.valueOf(made.answer());
        } catch (RuntimeException e) {
            got = e.getClass().getSimpleName();
        }
        if (!got.equals(name)) {
            wrong++;
            System.out.println(call + " answered " + got + ", due is " + name);
        }
    }

    /** A new object that has loaded this garden. */
    static LanternTree garden(String text) {
        LanternTree tree = new LanternTree();
        write(tree, text);
        tree.load();
        return tree;
    }

    static void write(LanternTree tree, String text) {
        for (int i = 0; i < text.length(); i++) {
            tree.append(text.charAt(i));
        }
    }
}
