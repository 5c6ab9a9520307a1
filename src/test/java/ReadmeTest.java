/** The examples of README.md, line by line. */
public final class ReadmeTest {
    public static void main(String[] args) {
        StuckKeys keys = new StuckKeys();
        words();
        corrections(keys);
        questions(keys);
        commands(keys);
        refusedCalls(keys);
        Check.end("ReadmeTest");
    }

    private static long word(String letters) {
        return Check.word(letters);
    }

    private static void words() {
        Check.due("word(the)", word("the"), 20741);
        Check.due("word(teh)", word("teh"), 20648);
        Check.due("word(ten)", word("ten"), 20654);
    }

    private static void corrections(StuckKeys keys) {
        Check.due("addWord(the, 5)", keys.addWord(word("the"), 5), 0);
        Check.due("addWord(ten, 3)", keys.addWord(word("ten"), 3), 0);
        Check.due("correct(teh)", keys.correct(word("teh")), 20741);
        Check.due("takeBack()", keys.takeBack(), 20648);
        Check.due("correct(teh) then", keys.correct(word("teh")), 20654);
        Check.due("undo()", keys.undo(), 3);
        Check.due("corrections that are left", keys.whole(5), 1);
    }

    private static void questions(StuckKeys keys) {
        long before = keys.digest();
        Check.due("caseOf(thr)", keys.caseOf(word("thr")), 3);
        Check.due("suggestion(thr, 0)", keys.suggestion(word("thr"), 0), 20741);
        Check.due("suggestion(thr, 1)", keys.suggestion(word("thr"), 1), StuckKeys.NONE);
        Check.due("reason(teh, the)", keys.reason(word("teh"), word("the")), 2);
        Check.due("distance(hte, the)", keys.distance(word("hte"), word("the")), 1);
        Check.due("digest()", keys.digest(), before);
    }

    private static void commands(StuckKeys keys) {
        for (char sign : "word hat 2; name bob; type hst;".toCharArray()) {
            keys.type(sign);
        }
        Check.due("runCommands()", keys.runCommands(), 3);
        Check.due("hst becomes", keys.logged(0, 1), word("hat"));
        Check.due("undo()", keys.undo(), 3);
        Check.due("words", keys.whole(0), 2);
        Check.due("names", keys.whole(1), 0);
        Check.due("clearCommands()", keys.clearCommands(), 31);
    }

    private static void refusedCalls(StuckKeys keys) {
        Check.badArgument(keys, "addWord(0, 1)", () -> keys.addWord(0, 1));
        Check.badState(keys, "takeBack() of none", keys::takeBack);
        Check.due("a text with a fault", Check.run(keys, "back,"), -14);
        Check.due("a text whose command would be refused", Check.run(keys, "back;"), 0);
    }
}
