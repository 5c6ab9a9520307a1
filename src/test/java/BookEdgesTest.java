/** The section THE BOOK, with promises 1 to 5 and 7: nothing in it, full tables, counts and settings at their ends. */
public final class BookEdgesTest {
    private static final int[] EXTREMES = {-1, Integer.MIN_VALUE, Integer.MAX_VALUE};

    public static void main(String[] args) {
        newObject();
        newObjectsAreApart();
        twentyWords();
        counts();
        dropWords();
        tenNames();
        dropNames();
        wordAndNameCanBeTheSame();
        strangeWordsAddedStayStrange();
        settings();
        settingsOutOfRange();
        Check.end("BookEdgesTest");
    }

    private static void newObject() {
        Check.sentence("Creates an empty book with the settings as at first, keys that do not stick, an empty command"
                + " text and an empty undo stack");
        StuckKeys x = new StuckKeys();
        int[] first = {0, 0, 0, 0, 0, 0, 0, 4, 2, 3, 0, 0};
        for (int what = 0; what <= 11; what++) {
            Check.due("whole(" + what + ")", x.whole(what), first[what]);
        }
        for (int letter = 0; letter < 26; letter++) {
            Check.due("key(" + letter + ", 3)", x.key(letter, 3), 0);
        }
        int[] values = {0, 0, 0, 1, -1, 0, 0};
        for (int what = 0; what <= 6; what++) {
            Check.due("word(a, " + what + ")", x.word(1, what), values[what]);
        }
        for (int what = 0; what <= 2; what++) {
            Check.due("pair(0, " + what + ")", x.pair(0, what), -1);
            Check.due("logged(0, " + what + ")", x.logged(0, what), -1);
        }
        Check.due("listed(false, 0)", x.listed(false, 0), -1);
        Check.due("listed(true, 0)", x.listed(true, 0), -1);
        Check.due("caseOf(a)", x.caseOf(1), 4);
        Check.due("suggestion(a, 0)", x.suggestion(1, 0), -1);
        Check.due("reason(a, a)", x.reason(1, 1), 1);
        Check.due("risk(a)", x.risk(1), 0);
        Check.due("riskiest()", x.riskiest(), -1);
        Check.badState(x, "takeBack()", x::takeBack);
        Check.badState(x, "undo()", x::undo);
        Check.due("clearCommands()", x.clearCommands(), 0);
        Check.due("runCommands()", x.runCommands(), 0);
        Check.due("undo() of the run", x.undo(), 0);
        Check.badState(x, "undo() again", x::undo);
        Check.due("dropWord(a)", x.dropWord(1), 0);
        Check.due("dropName(a)", x.dropName(1), 0);
        Check.due("allow(a, b)", x.allow(1, 2), 0);
    }

    private static void newObjectsAreApart() {
        Check.sentence("Creates an empty book");
        StuckKeys x = Check.book("the", 5);
        x.addName(1);
        Check.correctAll(x, "teh", "xyz", "thr");
        x.takeBack();
        x.setStick(0, 1);
        x.set(0, 12);
        x.type(' ');
        Check.due("digest() of another object", new StuckKeys().digest(), new StuckKeys().digest());
        newObject();
    }

    /** Words from ba on; a and z come before and behind them all. */
    private static StuckKeys bookOf(int words) {
        StuckKeys x = new StuckKeys();
        for (String word : Check.words('b', words)) {
            Check.due("addWord(" + word + ", 3)", x.addWord(Check.word(word), 3), 0);
        }
        return x;
    }

    private static void twentyWords() {
        Check.sentence("The book has at most 20 words");
        StuckKeys x = bookOf(19);
        Check.due("whole(0)", x.whole(0), 19);
        Check.due("addWord(z, 1) as the 20th", x.addWord(Check.word("z"), 1), 0);
        Check.due("whole(0)", x.whole(0), 20);
        for (String word : new String[] {"a", "bb", "bba", "zz", "zzzzzzzz"}) {
            if (!word.equals("bb")) {
                Check.badState(x, "addWord(" + word + ", 1)", () -> x.addWord(Check.word(word), 1));
            }
            Check.badArgument(x, "addWord(" + word + ", 0)", () -> x.addWord(Check.word(word), 0));
            Check.badArgument(x, "addWord(" + word + ", 1000)", () -> x.addWord(Check.word(word), 1000));
        }
        Check.badArgument(x, "addWord(0, 1)", () -> x.addWord(0, 1));
        Check.sentence("Adds a word, or sets the count of one that is there");
        Check.due("addWord of the first", x.addWord(Check.word("ba"), 999), 3);
        Check.due("addWord of the last", x.addWord(Check.word("z"), 1), 1);
        Check.due("words still", x.whole(0), 20);
        Check.dueWord("the last one", x.listed(false, 19), "z");
        Check.due("none behind it", x.listed(false, 20), -1);
        Check.due("place of the last one", x.word(Check.word("z"), 4), 19);
        Check.sentence("Throws `IllegalStateException` if it is not there, and there are 20 words");
        Check.due("dropWord(bb)", x.dropWord(Check.word("bb")), 3);
        Check.due("addWord(a, 1) as the 20th", x.addWord(Check.word("a"), 1), 0);
        Check.badState(x, "addWord(bb, 1) as the 21st", () -> x.addWord(Check.word("bb"), 1));
        Check.dueWord("the first one", x.listed(false, 0), "a");
        Check.dueWord("the last one", x.listed(false, 19), "z");
        x.addName(Check.word("bb"));
        Check.badState(x, "addWord of a name as the 21st", () -> x.addWord(Check.word("bb"), 1));
    }

    private static void counts() {
        Check.sentence("each with a count (1 to 999)");
        StuckKeys x = new StuckKeys();
        long the = Check.word("the");
        for (int count : new int[] {0, 1000, 1001, -1, -999, Integer.MIN_VALUE, Integer.MAX_VALUE}) {
            Check.badArgument(x, "addWord(the, " + count + ")", () -> x.addWord(the, count));
        }
        Check.due("addWord(the, 1)", x.addWord(the, 1), 0);
        Check.due("addWord(the, 999)", x.addWord(the, 999), 1);
        Check.due("addWord(the, 998)", x.addWord(the, 998), 999);
        Check.due("addWord(the, 2)", x.addWord(the, 2), 998);
        for (int count : new int[] {0, 1000, -1, Integer.MIN_VALUE, Integer.MAX_VALUE}) {
            Check.badArgument(x, "addWord(the, " + count + ") again", () -> x.addWord(the, count));
        }
        Check.due("word(the, 0)", x.word(the, 0), 2);
        for (String word : Check.words('b', 19)) {
            x.addWord(Check.word(word), 999);
        }
        Check.sentence("10 sum of the counts");
        Check.due("whole(10)", x.whole(10), 19 * 999 + 2);
        x.addWord(the, 999);
        Check.due("whole(10)", x.whole(10), 20 * 999);
        x.dropWord(the);
        Check.due("whole(10)", x.whole(10), 19 * 999);
    }

    private static void dropWords() {
        Check.sentence("Returns the count that it had; 0 if it was not there");
        StuckKeys x = bookOf(20);
        x.addWord(Check.word("ba"), 999);
        x.addWord(Check.word("bt"), 1);
        Check.due("dropWord of one before the first", x.dropWord(Check.word("b")), 0);
        Check.due("dropWord of one behind the last", x.dropWord(Check.word("bu")), 0);
        Check.due("dropWord of the first", x.dropWord(Check.word("ba")), 999);
        Check.due("dropWord of the last", x.dropWord(Check.word("bt")), 1);
        Check.due("dropWord of one between", x.dropWord(Check.word("bk")), 3);
        Check.due("dropWord again", x.dropWord(Check.word("bk")), 0);
        Check.due("whole(0)", x.whole(0), 17);
        Check.dueWord("listed(false, 0)", x.listed(false, 0), "bb");
        Check.dueWord("listed(false, 8)", x.listed(false, 8), "bj");
        Check.dueWord("listed(false, 9)", x.listed(false, 9), "bl");
        Check.dueWord("listed(false, 16)", x.listed(false, 16), "bs");
        Check.due("listed(false, 17)", x.listed(false, 17), -1);
        for (int i = 0; i < 20; i++) {
            x.dropWord(Check.word("b") * 32 + i + 1);
        }
        Check.due("whole(0) without words", x.whole(0), 0);
        Check.due("whole(10) without words", x.whole(10), 0);
        Check.due("dropWord without words", x.dropWord(Check.word("ba")), 0);
        Check.due("addWord then", x.addWord(Check.word("ba"), 7), 0);
    }

    private static void tenNames() {
        Check.sentence("at most 10 names");
        StuckKeys x = bookOf(20);
        for (String name : Check.words('b', 9)) {
            Check.due("addName(" + name + ")", x.addName(Check.word(name)), 1);
        }
        Check.due("whole(1)", x.whole(1), 9);
        Check.due("addName(z) as the tenth", x.addName(Check.word("z")), 1);
        Check.due("whole(1)", x.whole(1), 10);
        for (String name : new String[] {"a", "bj", "bja", "zzzzzzzz"}) {
            Check.badState(x, "addName(" + name + ") as the 11th", () -> x.addName(Check.word(name)));
        }
        Check.badArgument(x, "addName(0) with ten names", () -> x.addName(0));
        Check.due("addName of the first one", x.addName(Check.word("ba")), 0);
        Check.due("addName of the last one", x.addName(Check.word("z")), 0);
        Check.dueWord("listed(true, 9)", x.listed(true, 9), "z");
        Check.due("listed(true, 10)", x.listed(true, 10), -1);
        Check.sentence("Throws `IllegalStateException` if it is not there, and there are 10 names");
        Check.due("dropName(ba)", x.dropName(Check.word("ba")), 1);
        Check.due("addName(a)", x.addName(Check.word("a")), 1);
        Check.badState(x, "addName(ba) as the 11th", () -> x.addName(Check.word("ba")));
        Check.dueWord("listed(true, 0)", x.listed(true, 0), "a");
    }

    private static void dropNames() {
        Check.sentence("Returns 1 if it was there, otherwise 0");
        StuckKeys x = new StuckKeys();
        for (String name : Check.words('b', 10)) {
            x.addName(Check.word(name));
        }
        Check.due("dropName of one before the first", x.dropName(Check.word("b")), 0);
        Check.due("dropName of one behind the last", x.dropName(Check.word("bk")), 0);
        for (String name : new String[] {"ba", "bj", "be"}) {
            Check.due("dropName(" + name + ")", x.dropName(Check.word(name)), 1);
            Check.due("dropName(" + name + ") again", x.dropName(Check.word(name)), 0);
        }
        String[] left = {"bb", "bc", "bd", "bf", "bg", "bh", "bi", null};
        for (int i = 0; i < left.length; i++) {
            Check.dueWord("listed(true, " + i + ")", x.listed(true, i), left[i]);
        }
        for (String name : Check.words('b', 10)) {
            x.dropName(Check.word(name));
        }
        Check.due("whole(1) without names", x.whole(1), 0);
        Check.due("dropName without names", x.dropName(Check.word("bb")), 0);
        Check.due("addName then", x.addName(Check.word("bb")), 1);
    }

    private static void wordAndNameCanBeTheSame() {
        Check.sentence("A word of the book and a name can be the same");
        StuckKeys x = new StuckKeys();
        long bob = Check.word("bob");
        Check.due("addName(bob)", x.addName(bob), 1);
        Check.due("addWord(bob, 4)", x.addWord(bob, 4), 0);
        Check.due("whole(0)", x.whole(0), 1);
        Check.due("whole(1)", x.whole(1), 1);
        Check.due("dropWord(bob)", x.dropWord(bob), 4);
        Check.due("the name stays", x.word(bob, 1), 1);
        Check.due("addWord(bob, 5)", x.addWord(bob, 5), 0);
        Check.due("dropName(bob)", x.dropName(bob), 1);
        Check.due("the word stays", x.word(bob, 0), 5);
    }

    private static void strangeWordsAddedStayStrange() {
        Check.sentence("A strange word that is added as a word or as a name otherwise stays strange");
        StuckKeys x = new StuckKeys();
        Check.correctAll(x, "zip", "zip", "zap");
        x.addWord(Check.word("zip"), 1);
        x.addName(Check.word("zap"));
        Check.due("word(zip, 2)", x.word(Check.word("zip"), 2), 2);
        Check.due("word(zap, 2)", x.word(Check.word("zap"), 2), 1);
        Check.correctAll(x, "zip", "zap");
        Check.due("word(zip, 2) when it is typed", x.word(Check.word("zip"), 2), 2);
        Check.due("word(zap, 2) when it is typed", x.word(Check.word("zap"), 2), 1);
        Check.due("whole(4)", x.whole(4), 2);
        x.dropWord(Check.word("zip"));
        Check.correctAll(x, "zip");
        Check.due("a name at the patience, the word being gone", x.word(Check.word("zip"), 1), 1);
        Check.due("whole(4)", x.whole(4), 1);
    }

    private static void settings() {
        Check.sentence("three settings: 0 limit of distances (0 to 12; 4 at first), 1 trust (1 to 9; 2 at first), 2"
                + " patience (1 to 5; 3 at first)");
        int[] least = {0, 1, 1};
        int[] greatest = {12, 9, 5};
        int[] before = {4, 2, 3};
        StuckKeys x = new StuckKeys();
        for (int what = 0; what <= 2; what++) {
            Check.due("whole(" + (7 + what) + ")", x.whole(7 + what), before[what]);
            for (int value = least[what]; value <= greatest[what]; value++) {
                Check.due("set(" + what + ", " + value + ")", x.set(what, value), before[what]);
                Check.due("whole(" + (7 + what) + ")", x.whole(7 + what), value);
                before[what] = value;
            }
            Check.due("set(" + what + ", " + least[what] + ")", x.set(what, least[what]), greatest[what]);
            before[what] = least[what];
        }
        for (int what = 0; what <= 2; what++) {
            Check.due("whole(" + (7 + what) + ") at the end", x.whole(7 + what), least[what]);
        }
    }

    private static void settingsOutOfRange() {
        Check.sentence("Throws `IllegalArgumentException` if what or value is out of range");
        int[] least = {0, 1, 1};
        int[] greatest = {12, 9, 5};
        StuckKeys x = new StuckKeys();
        for (int what = 0; what <= 2; what++) {
            int asked = what;
            Check.badArgument(x, "set below: " + what, () -> x.set(asked, least[asked] - 1));
            Check.badArgument(x, "set above: " + what, () -> x.set(asked, greatest[asked] + 1));
            for (int value : EXTREMES) {
                Check.badArgument(x, "set(" + what + ", " + value + ")", () -> x.set(asked, value));
            }
        }
        for (int value = 0; value <= 12; value++) {
            int asked = value;
            Check.badArgument(x, "set(3, " + value + ")", () -> x.set(3, asked));
            Check.badArgument(x, "set(-1, " + value + ")", () -> x.set(-1, asked));
        }
        for (int what : EXTREMES) {
            Check.badArgument(x, "set(" + what + ", 1)", () -> x.set(what, 1));
        }
    }
}
