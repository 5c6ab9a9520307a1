/** Promises 24 to 28: command text, undo and checksum. */
public final class CommandsTest {
    public static void main(String[] args) {
        type();
        clearCommands();
        faults();
        textsWithoutFault();
        commandsDoTheirCalls();
        textsAfterLongerOnes();
        runsStop();
        runsSaveOneState();
        undo();
        digest();
        Check.end("CommandsTest");
    }

    private static void type() {
        Check.sentence("Appends a byte to the command text. - `value`: 0 to 127 Returns the length of the text.");
        StuckKeys x = new StuckKeys();
        Check.due("type(0)", x.type(0), 1);
        Check.due("type(127)", x.type(127), 2);
        Check.sentence("Throws `IllegalArgumentException` if value is out of range");
        Check.badArgument(x, "type(-1)", () -> x.type(-1));
        Check.badArgument(x, "type(128)", () -> x.type(128));
        Check.sentence("Throws `IllegalStateException` if the text has 150 bytes");
        for (int length = 3; length <= 150; length++) {
            Check.due("type", x.type(' '), length);
        }
        Check.badState(x, "type of the 151st", () -> x.type(' '));
        Check.badArgument(x, "type of a bad 151st", () -> x.type(128));
        Check.sentence("Every method that is marked \"undoable\" saves the whole state");
        Check.badState(x, "typing saves no state", x::undo);
    }

    private static void clearCommands() {
        Check.sentence("Returns the length that it had.");
        StuckKeys x = new StuckKeys();
        Check.due("clear of an empty text", x.clearCommands(), 0);
        Check.typeText(x, "back;");
        Check.due("clear", x.clearCommands(), 5);
        Check.sentence("Empties the command text.");
        Check.due("length", x.whole(11), 0);
        Check.due("type then", x.type('a'), 1);
        Check.badState(x, "clearing saves no state", x::undo);
    }

    private static void fault(String text, int at) {
        StuckKeys x = new StuckKeys();
        Check.due("run of '" + text + "'", Check.run(x, text), -10 - at);
        Check.badState(x, "a fault saves no state: '" + text + "'", x::undo);
        Check.due("nothing is done by '" + text + "'", x.whole(0), 0);
        Check.due("the text stays", x.whole(11), text.length());
    }

    private static void faults() {
        Check.sentence("Returns the number of commands that were carried out; -10 minus the fault if it has one.");
        fault(";", 0);
        fault("  ;", 2);
        fault("5", 0);
        fault("wor", 0);
        fault("words a 1;", 0);
        fault("xord a 1;", 0);
        fault("worx a 1;", 0);
        fault(" wor a 1;", 1);
        fault("Word a 1;", 0);
        fault("woRd a 1;", 0);
        fault("wordA a 1;", 4);
        fault("abcdefghijklmnop", 0);
        fault("back;bac;", 5);
        fault("word", 4);
        fault("word;", 4);
        fault("word ", 5);
        fault("word ;", 5);
        fault("word 1", 5);
        fault("word a", 6);
        fault("word a;", 6);
        fault("word a1;", 6);
        fault("word a ;", 7);
        fault("word a b;", 7);
        fault("word a 1", 8);
        fault("word a 1 ", 9);
        fault("word a 1 2;", 9);
        fault("word a 1b;", 8);
        fault("word a 1234;", 10);
        fault("word a 0000;", 10);
        fault("word abcdefghi 1;", 13);
        fault("word aB 1;", 6);
        fault("word a 1;;", 9);
        fault("word a 1; ;", 10);
        fault("drop a b;", 7);
        fault("drop 1;", 5);
        fault("name;", 4);
        fault("type", 4);
        fault("back a;", 5);
        fault("back1;", 4);
        fault("allow a;", 7);
        fault("allow a ;", 8);
        fault("allow a b", 9);
        fault("allow a b c;", 10);
        fault("stick a;", 7);
        fault("set 1;", 5);
        fault("set a 1;", 4);
        fault("set 1 a;", 6);
        fault("set 1 1 1;", 8);
        fault("set  1\t1;", 6);
        fault("\nback;", 0);
        fault("word a 1; back", 14);
        fault("word a 1; bac", 10);
        fault("word a 1; backs;", 10);
    }

    private static void textsWithoutFault() {
        Check.sentence("It is a sequence of commands (perhaps none: a text that is empty, or has spaces alone, has no"
                + " fault), each of which is a command word, followed by its arguments, each with at least one space"
                + " (byte 32) in front, and a semicolon. Spaces may also stand in front of a command, in front of a"
                + " semicolon, and at the end.");
        StuckKeys x = new StuckKeys();
        Check.due("empty", Check.run(x, ""), 0);
        Check.due("which saves a state", x.undo(), 0);
        Check.due("spaces alone", Check.run(x, "   "), 0);
        Check.due("many spaces", Check.run(x, "  word   the    007   ;   name  bob ;  "), 2);
        Check.due("count with zeros in front", x.word(Check.word("the"), 0), 7);
        Check.due("no spaces between", Check.run(x, "word abcdefgh 999;drop abcdefgh;"), 2);
        StringBuilder longest = new StringBuilder();
        while (longest.length() + 7 <= 150) {
            longest.append("type q;");
        }
        while (longest.length() < 150) {
            longest.append(' ');
        }
        Check.due("of 150 bytes", Check.run(x, longest.toString()), 21);
        Check.sentence("Runs the command text, which stays as it is.");
        Check.due("run again, the text stays", x.runCommands(), 21);
    }

    private static void commandsDoTheirCalls() {
        Check.sentence("The commands are: word w n (addWord(w, n)), drop w (dropWord(w)), name w (addName(w)), type w"
                + " (correct(w)), back (takeBack()), allow t w (allow(t, w)), stick w n (setStick(the first letter of"
                + " w, n)), set n n (set(n, n)), with words w and t and numbers n.");
        StuckKeys x = new StuckKeys();
        Check.due("the", Check.run(x, "word the 5;word ten 3;type teh;type teh;name bob;stick tea 2;"), 6);
        Check.due("word", x.word(Check.word("the"), 0), 5);
        Check.due("name", x.word(Check.word("bob"), 1), 1);
        Check.due("type", x.pair(0, 2), 2);
        Check.due("stick", x.key('t' - 'a', 3), 2);
        Check.due("back and set", Check.run(x, "back;set 0 12;set 1 9;set 2 5;"), 4);
        Check.due("ban", x.word(Check.word("teh"), 6), 1);
        Check.due("limit", x.whole(7), 12);
        Check.due("trust", x.whole(8), 9);
        Check.due("patience", x.whole(9), 5);
        Check.due("allow and drop", Check.run(x, "allow teh the;drop the;"), 2);
        Check.due("allowed", x.whole(3), 0);
        Check.due("dropped", x.whole(0), 1);
    }

    private static void textsAfterLongerOnes() {
        Check.sentence("or the length of the text if it ends too soon");
        StuckKeys x = new StuckKeys();
        Check.due("longer", Check.run(x, "word a 1;"), 1);
        Check.due("a shorter one ends where it ends", Check.run(x, "word a 1"), -10 - 8);
        Check.due("a shorter one without arguments", Check.run(x, "word"), -10 - 4);
        Check.due("words", x.whole(0), 1);
    }

    private static void runsStop() {
        Check.sentence("To run a command text means: if it has a fault, nothing is done; otherwise the commands are"
                + " carried out in their order, until one of them would throw an exception, which is not thrown;"
                + " those before it stay done, and they alone count.");
        StuckKeys x = new StuckKeys();
        Check.due("count 0", Check.run(x, "word a 1;word b 0;word c 1;"), 1);
        Check.due("words", x.whole(0), 1);
        Check.due("back of none", Check.run(x, "back;word c 1;"), 0);
        Check.due("words", x.whole(0), 1);
        Check.due("stick 3", Check.run(x, "stick a 1;stick a 3;stick a 2;"), 1);
        Check.due("key", x.key(0, 3), 1);
        Check.due("set out of range", Check.run(x, "set 0 12;set 0 13;set 0 1;"), 1);
        Check.due("limit", x.whole(7), 12);
        Check.due("set of 3", Check.run(x, "set 3 1;"), 0);
        Check.due("set 1 0", Check.run(x, "set 1 0;"), 0);
        Check.due("ten names", Check.run(x, "name a;name b;name c;name d;name e;name f;name g;name h;name i;"
                + "name j;name j;name k;name l;"), 11);
        for (int i = 0; i < 19; i++) {
            x.addWord(Check.word("z") * 32 + i + 1, 1);
        }
        Check.due("20 words", Check.run(x, "word a 2;word q 2;word a 3;"), 1);
        Check.due("count", x.word(Check.word("a"), 0), 2);
    }

    private static void runsSaveOneState() {
        Check.sentence("A run saves one state, the one from before it; its commands save none.");
        StuckKeys x = new StuckKeys();
        Check.run(x, "word a 1;word b 1;word c 1;");
        Check.due("undo of a run", x.undo(), 0);
        Check.due("words", x.whole(0), 0);
        Check.due("the text is not undone", x.whole(11), 27);
        Check.run(x, "word a 1;word b 0;");
        Check.due("undo of a run that stopped", x.undo(), 0);
        Check.due("words", x.whole(0), 0);
        Check.sentence("Undoable, if it has no fault.");
        x.addWord(1, 1);
        Check.due("a run with a fault", Check.run(x, "word b 1;word c;"), -10 - 15);
        Check.due("undo of the call before it", x.undo(), 0);
        Check.due("words", x.whole(0), 0);
    }

    private static void undo() {
        Check.sentence("Throws `IllegalStateException` if the stack is empty");
        StuckKeys x = new StuckKeys();
        Check.badState(x, "undo of nothing", x::undo);
        Check.sentence("Returns the number of states that are left on the stack.");
        for (int count = 1; count <= 6; count++) {
            x.addWord(1, count);
        }
        for (int left = 3; left >= 0; left--) {
            Check.due("undo", x.undo(), left);
            Check.due("count", x.word(1, 0), 2 + left);
        }
        Check.badState(x, "undo beyond four", x::undo);
        undoOfEverything();
        undoAfterUndo();
    }

    private static void undoOfEverything() {
        Check.sentence("The saved state is the one from before the call.");
        StuckKeys x = new StuckKeys();
        x.addWord(Check.word("the"), 5);
        x.correct(Check.word("teh"));
        x.correct(Check.word("teh"));
        x.correct(Check.word("xyz"));
        long before = x.digest();
        Check.run(x, "drop the;word a 9;back;type xyz;type xyz;stick a 1;set 0 0;set 1 1;set 2 1;name b;"
                + "type zz;");
        Check.due("a state is saved still", x.undo(), 3);
        x.clearCommands();
        x.setStick(0, 0);
        Check.due("all is as before", x.digest(), before);
        Check.due("also strange words", x.word(Check.word("xyz"), 2), 1);
        Check.due("and bans", x.word(Check.word("teh"), 6), 0);
    }

    private static void undoAfterUndo() {
        Check.sentence("Restores the latest saved state and removes it from the undo stack.");
        StuckKeys x = new StuckKeys();
        x.addWord(1, 1);
        x.addWord(1, 2);
        x.undo();
        x.addWord(1, 3);
        Check.due("undo", x.undo(), 1);
        Check.due("count", x.word(1, 0), 1);
        Check.due("undo", x.undo(), 0);
        Check.due("words", x.whole(0), 0);
    }

    private static void digest() {
        Check.sentence("Returns a hash of the state. It starts with h = 43304. For each of the following values v, in"
                + " this order, h becomes 31 * h + v (long arithmetic, overflow wraps).");
        StuckKeys x = new StuckKeys();
        long hash = 43304;
        int[] first = {0, 0, 0, 0, 0, 0, 0, 0, 4, 2, 3, 0, 0};
        for (int value : first) {
            hash = 31 * hash + value;
        }
        for (int letter = 0; letter < 26; letter++) {
            hash = 31 * hash;
        }
        Check.due("digest of a new object", x.digest(), hash);
        x.addWord(Check.word("the"), 5);
        x.addWord(Check.word("tho"), 5);
        x.addName(Check.word("bob"));
        x.correct(Check.word("teh"));
        x.correct(Check.word("thp"));
        x.takeBack();
        x.setStick(3, 2);
        x.type('a');
        Check.sentence("for each name, in order, the name; for each pair pair() of 0 to 2; for each correction of the"
                + " log, from the latest one, logged() of 0 to 2. Returns the hash.");
        Check.due("digest", x.digest(), digestOf(x, 4));
        x.undo();
        Check.due("digest after undo", x.digest(), digestOf(x, 3));
    }

    private static long digestOf(StuckKeys x, int states) {
        long h = 31 * 43304L + states;
        for (int what = 0; what <= 11; what++) {
            h = 31 * h + x.whole(what);
        }
        for (int letter = 0; letter < 26; letter++) {
            h = 31 * h + x.key(letter, 3);
        }
        for (int i = 0; i < x.whole(0); i++) {
            long word = x.listed(false, i);
            h = 31 * h + word;
            for (int what = 0; what <= 6; what++) {
                h = 31 * h + x.word(word, what);
            }
            h = 31 * h + x.risk(word);
        }
        for (int i = 0; i < x.whole(1); i++) {
            h = 31 * h + x.listed(true, i);
        }
        for (int i = 0; i < x.whole(2); i++) {
            for (int what = 0; what <= 2; what++) {
                h = 31 * h + x.pair(i, what);
            }
        }
        for (int i = 0; i < x.whole(5); i++) {
            for (int what = 0; what <= 2; what++) {
                h = 31 * h + x.logged(i, what);
            }
        }
        return h;
    }
}
