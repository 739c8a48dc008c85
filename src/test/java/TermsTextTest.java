/** Each sentence of "TEXT" in the terms. */
public final class TermsTextTest {
    private static final String TEXT = "Terms: TEXT";
    private static final String FORM = "A garden is the letter L, a digit for the order (2 to 6), and then any number of commands:";
    private static final String POSITION = "The error position is the index of the first character that these rules do not\nallow at its place;";
    private static final String TOO_SOON = "if the text ends too soon, it is the length of the text.";

    public static void main(String[] args) {
        Sentences.test(TermsTextTest.class, args);
    }

    private static void error(Due due, String text, int position) {
        LanternTree tree = new LanternTree();
        Due.write(tree, text);
        due.is("errorPosition() of \"" + text + "\"", tree.errorPosition(), position);
        if (position == LanternTree.NONE) {
            due.is("load() of \"" + text + "\", wrong", tree.load() < 0 ? 1 : 0, 0);
        } else {
            due.throwsState("load() of \"" + text + "\"", tree::load);
        }
    }

    private static void leftOut(Due due, String text, int commands) {
        LanternTree tree = new LanternTree();
        Due.write(tree, text);
        due.is("load() of " + text, tree.load(), commands);
    }

    @Sentence(of = TEXT, says = "The object has a text buffer of at most 100 characters.")
    static void hundredCharacters(Due due) {
        LanternTree tree = new LanternTree();
        Due.write(tree, "L2" + "i001d001".repeat(12) + "t");
        due.is("append('t'), the hundredth", tree.append('t'), 100);
        due.is("errorPosition()", tree.errorPosition(), -1);
        due.is("load()", tree.load(), 0);
        due.throwsState("append('t') once more", () -> tree.append('t'));
        due.is("clearText()", tree.clearText(), 100);
    }

    @Sentence(of = TEXT, says = FORM)
    static void noCommands(Due due) {
        error(due, "L2", -1);
        error(due, "L6", -1);
    }

    @Sentence(of = TEXT, says = FORM)
    static void ninetyEightCommands(Due due) {
        error(due, "L2" + "t".repeat(98), -1);
    }

    @Sentence(of = TEXT, says = FORM)
    static void anotherLetterThanL(Due due) {
        error(due, "l2", 0);
        error(due, "K2", 0);
        error(due, "M2", 0);
        error(due, "2", 0);
        error(due, "\0", 0);
        error(due, "\u00ff", 0);
    }

    @Sentence(of = TEXT, says = FORM)
    static void anotherOrder(Due due) {
        error(due, "L1", 1);
        error(due, "L7", 1);
        error(due, "L0i001", 1);
        error(due, "L/", 1);
        error(due, "L:", 1);
        error(due, "LL", 1);
        error(due, "L10", 1);
        error(due, "L22", 2);
    }

    @Sentence(of = TEXT, says = FORM)
    static void eachOrder(Due due) {
        for (int order = 2; order <= 6; order++) {
            error(due, "L" + order, -1);
            due.is("about(0)", Due.garden("L" + order).about(0), order);
        }
    }

    @Sentence(of = TEXT, says = "the letter i or d and three digits: a key is inserted, or removed;")
    static void leastAndGreatestKeyOfAGarden(Due due) {
        LanternTree tree = Due.garden("L2i000i999i500d500");
        due.text("sorted", Look.sorted(tree), "0 999");
        due.text("all removed", Look.sorted(Due.garden("L2i000i999d000d999")), "");
    }

    @Sentence(of = TEXT, says = "the letter i or d and three digits: a key is inserted, or removed;")
    static void digitsTooFewOrTooMany(Due due) {
        error(due, "L2i01", 5);
        error(due, "L2i01t", 5);
        error(due, "L2i0100", 6);
        error(due, "L2d01", 5);
        error(due, "L2d01d", 5);
        error(due, "L2d0100", 6);
    }

    @Sentence(of = TEXT, says = "the letter i or d and three digits: a key is inserted, or removed;")
    static void signsBesideTheDigits(Due due) {
        error(due, "L2i/00", 3);
        error(due, "L2i:00", 3);
        error(due, "L2i0/0", 4);
        error(due, "L2i0:0", 4);
        error(due, "L2d00/", 5);
        error(due, "L2d00:", 5);
        error(due, "L2i-01", 3);
        error(due, "L2d+01", 3);
    }

    @Sentence(of = TEXT, says = "the\nletter t: the gardeners tend the tree;")
    static void tendInAGarden(Due due) {
        due.is("about(8) of L2i001i002t", Due.garden("L2i001i002t").about(8), 0);
        due.is("about(8) of L2i001i002i003t", Due.garden("L2i001i002i003t").about(8), 1);
        error(due, "L2t0", 3);
        error(due, "L2T", 2);
    }

    @Sentence(of = TEXT, says = "the letter r and three digits: a reader comes who looks for this key;")
    static void readersOfAGarden(Due due) {
        LanternTree tree = Due.garden("L2r000r999");
        due.is("about(10)", tree.about(10), 2);
        due.is("reader(0, 1)", tree.reader(0, 1), 0);
        due.is("reader(1, 1)", tree.reader(1, 1), 999);
        error(due, "L2r01", 5);
        error(due, "L2r0100", 6);
        error(due, "L2r01s0", 5);
    }

    @Sentence(of = TEXT, says = "the letter s and a digit from 0 to 3: this reader takes a step.")
    static void stepsOfAGarden(Due due) {
        LanternTree tree = Due.garden("L2r000r001r002r003s0s3");
        int[] moods = {2, 0, 0, 2};
        for (int r = 0; r < moods.length; r++) {
            due.is("reader(" + r + ", 2)", tree.reader(r, 2), moods[r]);
        }
    }

    @Sentence(of = TEXT, says = "the letter s and a digit from 0 to 3: this reader takes a step.")
    static void anotherReaderThan0To3(Due due) {
        error(due, "L2s3", -1);
        error(due, "L2s4", 3);
        error(due, "L2s9", 3);
        error(due, "L2s/", 3);
        error(due, "L2s-1", 3);
        error(due, "L2s00", 4);
    }

    @Sentence(of = TEXT, says = "Commands that\nwould throw an exception are left out.")
    static void insertIntoAFullLeafIsLeftOut(Due due) {
        leftOut(due, "L2i001i002i003i004", 0);
        leftOut(due, "L2i001i002i003i004i005", 1);
        leftOut(due, "L2i001i002i003i004i005i006ti005", 2);
        due.text("sorted", Look.sorted(Due.garden("L2i001i002i003i004i005i006ti005")), "1 2 3 4 5");
    }

    @Sentence(of = TEXT, says = "Commands that\nwould throw an exception are left out.")
    static void whatOnlyAnswersNoneIsNotLeftOut(Due due) {
        leftOut(due, "L2i001i001", 0);
        leftOut(due, "L2i001i002i003i004i004", 0);
        leftOut(due, "L2d001", 0);
        leftOut(due, "L2t", 0);
    }

    @Sentence(of = TEXT, says = "Commands that\nwould throw an exception are left out.")
    static void fifthReaderIsLeftOut(Due due) {
        leftOut(due, "L2r001r002r003r004", 0);
        leftOut(due, "L2r001r002r003r004r005r006", 2);
        due.is("reader(3, 1)", Due.garden("L2r001r002r003r004r005").reader(3, 1), 4);
    }

    @Sentence(of = TEXT, says = "Commands that\nwould throw an exception are left out.")
    static void stepOfNoReaderIsLeftOut(Due due) {
        leftOut(due, "L2s0", 1);
        leftOut(due, "L2r001s1s2s3", 3);
        leftOut(due, "L2s0r001s0", 1);
    }

    @Sentence(of = TEXT, says = "Commands that\nwould throw an exception are left out.")
    static void stepOfAReaderThatIsDoneIsLeftOut(Due due) {
        leftOut(due, "L2r001s0s0s0", 2);
        leftOut(due, "L2i001r001s0s0", 1);
    }

    @Sentence(of = TEXT, says = "There are no blanks.")
    static void blanks(Due due) {
        error(due, " L2", 0);
        error(due, "L 2", 1);
        error(due, "L2 ", 2);
        error(due, "L2i 01", 3);
        error(due, "L2i001 t", 6);
        error(due, "L2t\n", 3);
        error(due, "L2s 0", 3);
    }

    @Sentence(of = TEXT, says = "The text is read from left to right.")
    static void firstOfTwoErrors(Due due) {
        error(due, "L2xi00x", 2);
        error(due, "x9", 0);
        error(due, "L2i0x0i", 4);
    }

    @Sentence(of = TEXT, says = "The text is read from left to right.")
    static void commandsInTheirOrder(Due due) {
        due.text("in, out", Look.sorted(Due.garden("L2i001d001")), "");
        due.text("out, in", Look.sorted(Due.garden("L2d001i001")), "1");
        due.is("in, tend", Due.garden("L2i001i002i003t").about(2), 3);
        due.is("tend, in", Due.garden("L2ti001i002i003").about(2), 1);
    }

    @Sentence(of = TEXT, says = POSITION)
    static void errorAtTheFirstCharacter(Due due) {
        error(due, "x", 0);
        error(due, "\u00e9L2", 0);
    }

    @Sentence(of = TEXT, says = POSITION)
    static void errorAtTheLastOfHundred(Due due) {
        error(due, "L2" + "t".repeat(97) + "x", 99);
        error(due, "L2t" + "i001".repeat(24) + "2", 99);
    }

    @Sentence(of = TEXT, says = POSITION)
    static void otherLetters(Due due) {
        String others = "LIDRSabcehjquvz0.\u007f\u0080\u00ff\0";
        for (int i = 0; i < others.length(); i++) {
            error(due, "L2" + others.charAt(i), 2);
            error(due, "L2t" + others.charAt(i) + "001", 3);
        }
    }

    @Sentence(of = TEXT, says = TOO_SOON)
    static void emptyText(Due due) {
        error(due, "", 0);
    }

    @Sentence(of = TEXT, says = TOO_SOON)
    static void onlyAnL(Due due) {
        error(due, "L", 1);
    }

    @Sentence(of = TEXT, says = TOO_SOON)
    static void endsInACommand(Due due) {
        String[] letters = {"i", "d", "r"};
        for (String letter : letters) {
            error(due, "L2" + letter, 3);
            error(due, "L2" + letter + "0", 4);
            error(due, "L2" + letter + "00", 5);
            error(due, "L2" + letter + "000", -1);
        }
        error(due, "L2s", 3);
    }

    @Sentence(of = TEXT, says = TOO_SOON)
    static void endsAtTheHundredth(Due due) {
        error(due, "L2" + "t".repeat(97) + "s", 100);
        error(due, "L2" + "t".repeat(95) + "i99", 100);
    }

    @Sentence(of = TEXT, says = TOO_SOON)
    static void nothingIsReadBehindTheEnd(Due due) {
        LanternTree tree = new LanternTree();
        Due.write(tree, "L2i012s0");
        tree.clearText();
        due.is("errorPosition() of no text", tree.errorPosition(), 0);
        Due.write(tree, "L");
        due.is("errorPosition() of L", tree.errorPosition(), 1);
        Due.write(tree, "2i");
        due.is("errorPosition() of L2i", tree.errorPosition(), 3);
    }
}
