/** Promises 1 to 7: a new object, and the book. */
public final class BookTest {
    public static void main(String[] args) {
        newObject();
        addWord();
        dropWord();
        addName();
        dropName();
        setStick();
        set();
        Check.end("BookTest");
    }

    private static void newObject() {
        Check.sentence("Creates an empty book with the settings as at first, keys that do not stick, an empty command"
                + " text and an empty undo stack.");
        StuckKeys x = new StuckKeys();
        int[] first = {0, 0, 0, 0, 0, 0, 0, 4, 2, 3, 0, 0};
        for (int what = 0; what < first.length; what++) {
            Check.due("new whole(" + what + ")", x.whole(what), first[what]);
        }
        for (int letter = 0; letter < 26; letter++) {
            Check.due("new key(" + letter + ", 3)", x.key(letter, 3), 0);
        }
        Check.badState(x, "new undo()", x::undo);
        Check.sentence("The constants: `NONE = -1`: Returned where there is no such value.");
        Check.due("NONE", StuckKeys.NONE, -1);
        Check.due("new listed", x.listed(false, 0), -1);
        Check.due("new listed name", x.listed(true, 0), -1);
        Check.due("new pair", x.pair(0, 0), -1);
        Check.due("new logged", x.logged(0, 0), -1);
        Check.sentence("`StuckKeys()`: Creates an empty book");
        StuckKeys y = new StuckKeys();
        x.addWord(1, 1);
        Check.due("another object's words", y.whole(0), 0);
    }

    private static void addWord() {
        Check.sentence("Returns the previous count; 0 if it was not there.");
        StuckKeys x = new StuckKeys();
        Check.due("addWord new", x.addWord(Check.word("the"), 1), 0);
        Check.due("addWord again", x.addWord(Check.word("the"), 999), 1);
        Check.due("addWord a third time", x.addWord(Check.word("the"), 5), 999);
        Check.sentence("Adds a word, or sets the count of one that is there.");
        Check.due("its count", x.word(Check.word("the"), 0), 5);
        Check.due("words", x.whole(0), 1);
        Check.due("of eight letters", x.addWord(Check.word("zzzzzzzz"), 2), 0);
        Check.dueWord("the longest is listed", x.listed(false, 1), "zzzzzzzz");
        Check.sentence("Throws `IllegalArgumentException` if a word is none, or count is out of range");
        for (long bad : Check.noWords()) {
            Check.badArgument(x, "addWord(" + bad + ", 1)", () -> x.addWord(bad, 1));
        }
        Check.sentence("`count`: 1 to 999");
        for (int count : new int[] {0, -1, 1000, Integer.MAX_VALUE, Integer.MIN_VALUE}) {
            Check.badArgument(x, "addWord with count " + count, () -> x.addWord(1, count));
        }
        Check.sentence("Throws `IllegalStateException` if it is not there, and there are 20 words");
        for (int i = 2; i < 20; i++) {
            Check.due("addWord number " + i, x.addWord(Check.word("a") * 32 + i, i), 0);
        }
        Check.badState(x, "addWord as the 21st", () -> x.addWord(Check.word("q"), 1));
        Check.badArgument(x, "addWord as the 21st with count 0", () -> x.addWord(Check.word("q"), 0));
        Check.due("addWord of one there", x.addWord(Check.word("the"), 7), 5);
        Check.sentence("Adds a word, or sets the count of one that is there. Undoable.");
        Check.due("undo", x.undo(), 3);
        Check.due("count after undo", x.word(Check.word("the"), 0), 5);
    }

    private static void dropWord() {
        Check.sentence("Removes a word of the book.");
        StuckKeys x = new StuckKeys();
        for (String word : new String[] {"b", "a", "ab", "aa"}) {
            x.addWord(Check.word(word), 3);
        }
        Check.due("dropWord there", x.dropWord(Check.word("aa")), 3);
        Check.due("dropWord not there", x.dropWord(Check.word("aa")), 0);
        Check.dueWord("first", x.listed(false, 0), "a");
        Check.dueWord("second", x.listed(false, 1), "ab");
        Check.dueWord("third", x.listed(false, 2), "b");
        Check.dueWord("fourth", x.listed(false, 3), null);
        Check.sentence("`word`: a word");
        for (long bad : Check.noWords()) {
            Check.badArgument(x, "dropWord(" + bad + ")", () -> x.dropWord(bad));
        }
        Check.sentence("Removes a word of the book. Undoable.");
        Check.due("undo of a drop that changed nothing", x.undo(), 3);
        Check.due("words", x.whole(0), 3);
        Check.due("undo of the drop", x.undo(), 2);
        Check.due("words again", x.whole(0), 4);
    }

    private static void addName() {
        Check.sentence("Returns 1 if it was not there, otherwise 0.");
        StuckKeys x = new StuckKeys();
        x.addWord(Check.word("bob"), 1);
        Check.due("addName of a word", x.addName(Check.word("bob")), 1);
        Check.due("addName again", x.addName(Check.word("bob")), 0);
        Check.due("both word", x.word(Check.word("bob"), 0), 1);
        Check.due("and name", x.word(Check.word("bob"), 1), 1);
        Check.sentence("Throws `IllegalArgumentException` if a word is none");
        for (long bad : Check.noWords()) {
            Check.badArgument(x, "addName(" + bad + ")", () -> x.addName(bad));
        }
        Check.sentence("Throws `IllegalStateException` if it is not there, and there are 10 names");
        for (int i = 1; i < 10; i++) {
            Check.due("addName number " + i, x.addName(i), 1);
        }
        Check.badState(x, "addName as the 11th", () -> x.addName(Check.word("k")));
        Check.badArgument(x, "addName(0) when full", () -> x.addName(0));
        Check.due("addName of one there when full", x.addName(Check.word("bob")), 0);
        Check.sentence("Adds a name. Undoable.");
        Check.due("undo of it", x.undo(), 3);
        Check.due("undo of the tenth", x.undo(), 2);
        Check.due("names", x.whole(1), 9);
    }

    private static void dropName() {
        Check.sentence("Returns 1 if it was there, otherwise 0.");
        StuckKeys x = new StuckKeys();
        x.addWord(Check.word("bob"), 4);
        x.addName(Check.word("bob"));
        x.addName(Check.word("al"));
        Check.due("dropName", x.dropName(Check.word("bob")), 1);
        Check.due("dropName again", x.dropName(Check.word("bob")), 0);
        Check.sentence("Removes a name.");
        Check.due("it is a word still", x.word(Check.word("bob"), 0), 4);
        Check.dueWord("the other one stays", x.listed(true, 0), "al");
        Check.due("names", x.whole(1), 1);
        Check.sentence("Throws `IllegalArgumentException` if a word is none");
        for (long bad : Check.noWords()) {
            Check.badArgument(x, "dropName(" + bad + ")", () -> x.dropName(bad));
        }
        Check.sentence("Removes a name. Undoable.");
        x.undo();
        Check.due("undo of the drop", x.undo(), 2);
        Check.due("names again", x.whole(1), 2);
    }

    private static void setStick() {
        Check.sentence("Returns how it stuck.");
        StuckKeys x = new StuckKeys();
        Check.due("setStick(a, 1)", x.setStick(0, 1), 0);
        Check.due("setStick(a, 2)", x.setStick(0, 2), 1);
        Check.due("setStick(a, 0)", x.setStick(0, 0), 2);
        Check.due("setStick(z, 2)", x.setStick(25, 2), 0);
        Check.sentence("Sets how a key sticks.");
        Check.due("key(z, 3)", x.key(25, 3), 2);
        Check.sentence("`letter`: 0 for a, to 25 for z");
        Check.badArgument(x, "setStick(-1, 0)", () -> x.setStick(-1, 0));
        Check.badArgument(x, "setStick(26, 0)", () -> x.setStick(26, 0));
        Check.sentence("`stick`: 0 to 2");
        Check.badArgument(x, "setStick(0, -1)", () -> x.setStick(0, -1));
        Check.badArgument(x, "setStick(0, 3)", () -> x.setStick(0, 3));
        Check.sentence("Throws `IllegalArgumentException` if letter or stick is out of range");
        Check.badArgument(x, "setStick(26, 3)", () -> x.setStick(26, 3));
        Check.badArgument(x, "setStick(MIN, MAX)", () -> x.setStick(Integer.MIN_VALUE, Integer.MAX_VALUE));
        Check.sentence("Sets how a key sticks. Undoable.");
        Check.due("undo", x.undo(), 3);
        Check.due("key(z, 3) after undo", x.key(25, 3), 0);
        Check.due("undo", x.undo(), 2);
        Check.due("key(a, 3) after undo", x.key(0, 3), 2);
    }

    private static void set() {
        int[] least = {0, 1, 1};
        int[] greatest = {12, 9, 5};
        int[] first = {4, 2, 3};
        Check.sentence("Returns the previous value.");
        StuckKeys x = new StuckKeys();
        for (int i = 0; i < 3; i++) {
            int what = i;
            Check.due("set to the least", x.set(what, least[what]), first[what]);
            Check.due("set to the greatest", x.set(what, greatest[what]), least[what]);
            Check.due("whole of it", x.whole(7 + what), greatest[what]);
        }
        Check.sentence("`value`: the new value, in its range");
        for (int i = 0; i < 3; i++) {
            int what = i;
            Check.badArgument(x, "set below", () -> x.set(what, least[what] - 1));
            Check.badArgument(x, "set above", () -> x.set(what, greatest[what] + 1));
        }
        Check.sentence("`what`: 0 limit, 1 trust, 2 patience");
        x.set(0, 7);
        x.set(1, 8);
        x.set(2, 4);
        Check.due("the limit", x.whole(7), 7);
        Check.due("the trust", x.whole(8), 8);
        Check.due("the patience", x.whole(9), 4);
        Check.sentence("Throws `IllegalArgumentException` if what or value is out of range");
        Check.badArgument(x, "set(-1, 1)", () -> x.set(-1, 1));
        Check.badArgument(x, "set(3, 1)", () -> x.set(3, 1));
        Check.sentence("Sets a setting. Undoable.");
        Check.due("undo", x.undo(), 3);
        Check.due("patience after undo", x.whole(9), 5);
    }
}
