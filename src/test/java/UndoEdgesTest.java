import java.util.ArrayList;
import java.util.List;

/** The section UNDO, with promise 27 and every "Undoable" of the others. */
public final class UndoEdgesTest {
    private static final String[] WORDS = {"the", "ten", "teh", "thr", "bob", "zip", "zap", "a", "m"};

    /** A call, and whether it can be undone. */
    private record Named(String name, Change change) {
    }

    private interface Change {
        long on(StuckKeys x);
    }

    public static void main(String[] args) {
        undoableCalls();
        undoableCallsWithFourStates();
        otherCalls();
        alsoIfItChangesNothing();
        fourStates();
        emptyStack();
        wholeStateButTheText();
        everyKeyComesBack();
        fullTablesComeBack();
        refusedCallsSaveNone();
        lastOfManyCalls();
        Check.end("UndoEdgesTest");
    }

    private static long w(String word) {
        return Check.word(word);
    }

    /** Two saved states, and something in every table. */
    private static StuckKeys filled() {
        StuckKeys x = Check.book("the", 5, "ten", 999);
        x.addName(w("bob"));
        x.setStick(0, 2);
        Check.correctAll(x, "teh", "thr", "zip");
        x.takeBack();
        x.addWord(w("a"), 1);
        x.addWord(w("a"), 2);
        x.undo();
        x.undo();
        return x;
    }

    private static final Named[] UNDOABLE = {
        new Named("addWord of a new one", x -> x.addWord(w("a"), 1)),
        new Named("addWord of one there", x -> x.addWord(w("the"), 6)),
        new Named("addWord of the same count", x -> x.addWord(w("the"), 5)),
        new Named("dropWord", x -> x.dropWord(w("the"))),
        new Named("dropWord of none", x -> x.dropWord(w("a"))),
        new Named("addName", x -> x.addName(w("a"))),
        new Named("addName of one there", x -> x.addName(w("bob"))),
        new Named("dropName", x -> x.dropName(w("bob"))),
        new Named("dropName of none", x -> x.dropName(w("the"))),
        new Named("setStick of z", x -> x.setStick(25, 1)),
        new Named("setStick of a", x -> x.setStick(0, 1)),
        new Named("setStick as it is", x -> x.setStick(25, 0)),
        new Named("set(0, 0)", x -> x.set(0, 0)),
        new Named("set(0, 4), as it is", x -> x.set(0, 4)),
        new Named("set(1, 9)", x -> x.set(1, 9)),
        new Named("set(1, 2), as it is", x -> x.set(1, 2)),
        new Named("set(2, 1)", x -> x.set(2, 1)),
        new Named("set(2, 3), as it is", x -> x.set(2, 3)),
        new Named("correct of a word", x -> x.correct(w("the"))),
        new Named("correct of a word with 999", x -> x.correct(w("ten"))),
        new Named("correct of a name", x -> x.correct(w("bob"))),
        new Named("correct to the nearest", x -> x.correct(w("teh"))),
        new Named("correct of a strange word", x -> x.correct(w("zip"))),
        new Named("takeBack", x -> x.takeBack()),
        new Named("allow of none", x -> x.allow(w("teh"), w("zip"))),
        new Named("runCommands of an empty text", x -> x.runCommands()),
    };

    private static final Named[] OTHERS = {
        new Named("word", x -> x.word(w("the"), 0)),
        new Named("listed", x -> x.listed(false, 0)),
        new Named("pair", x -> x.pair(0, 0)),
        new Named("logged", x -> x.logged(0, 0)),
        new Named("key", x -> x.key(0, 3)),
        new Named("whole", x -> x.whole(0)),
        new Named("distance", x -> x.distance(w("teh"), w("the"))),
        new Named("caseOf a word", x -> x.caseOf(w("the"))),
        new Named("caseOf a strange one", x -> x.caseOf(w("zip"))),
        new Named("suggestion", x -> x.suggestion(w("teh"), 0)),
        new Named("suggestion of many", x -> x.suggestion(w("teh"), Integer.MAX_VALUE)),
        new Named("reason", x -> x.reason(w("teh"), w("the"))),
        new Named("risk", x -> x.risk(w("the"))),
        new Named("riskiest", x -> x.riskiest()),
        new Named("bestDropping", x -> x.bestDropping(w("teh"), w("the"))),
        new Named("clearCommands", x -> x.clearCommands()),
        new Named("digest", x -> x.digest()),
    };

    private static void undoableCalls() {
        Check.sentence("saves the whole state but the command text on an undo stack when it ends normally, also if it"
                + " changes nothing");
        List<Long> due = Seen.all(filled(), WORDS);
        for (Named call : UNDOABLE) {
            StuckKeys x = filled();
            call.change.on(x);
            Check.due("undo() of " + call.name, x.undo(), 2);
            Seen.same("undone " + call.name, Seen.all(x, WORDS), due);
        }
    }

    private static void undoableCallsWithFourStates() {
        Check.sentence("The stack keeps the latest 4 saved states and drops older ones");
        for (Named call : UNDOABLE) {
            StuckKeys x = new StuckKeys();
            x.addWord(w("ten"), 999);
            x.addName(w("bob"));
            x.addWord(w("the"), 5);
            x.correct(w("zip"));
            x.correct(w("teh"));
            List<Long> before = Seen.state(x, WORDS);
            call.change.on(x);
            Check.due("undo() of " + call.name + " with four states", x.undo(), 3);
            x.addWord(w("the"), 5);
            Seen.same("undone " + call.name, Seen.state(x, WORDS), before);
        }
    }

    private static void otherCalls() {
        Check.sentence("Every method that is marked \"undoable\" saves");
        List<Long> due = Seen.all(filled(), WORDS);
        for (Named call : OTHERS) {
            StuckKeys x = filled();
            long first = call.change.on(x);
            Check.due(call.name + " again", call.change.on(x), first);
            Seen.same(call.name + " twice", Seen.all(x, WORDS), due);
        }
        StuckKeys x = filled();
        x.type('x');
        Check.due("clearCommands()", x.clearCommands(), 1);
        Seen.same("type and clearCommands", Seen.all(x, WORDS), due);
        StuckKeys y = filled();
        y.type('x');
        Check.due("runCommands() with a fault", y.runCommands(), -10);
        y.clearCommands();
        Seen.same("a run with a fault", Seen.all(y, WORDS), due);
    }

    private static void alsoIfItChangesNothing() {
        Check.sentence("also if it changes nothing");
        StuckKeys x = Check.book("the", 5);
        for (int i = 0; i < 6; i++) {
            x.dropName(w("a"));
        }
        for (int left = 3; left >= 0; left--) {
            Check.due("undo()", x.undo(), left);
            Check.due("word(the, 0)", x.word(w("the"), 0), 5);
        }
        Check.badState(x, "undo()", x::undo);
    }

    private static void fourStates() {
        Check.sentence("The stack keeps the latest 4 saved states and drops older ones");
        for (int calls = 1; calls <= 9; calls++) {
            StuckKeys x = new StuckKeys();
            for (int count = 1; count <= calls; count++) {
                x.addWord(1, count);
            }
            int states = Math.min(calls, 4);
            for (int i = 1; i <= states; i++) {
                Check.due("undo() after " + calls + " calls", x.undo(), states - i);
                Check.due("word(a, 0)", x.word(1, 0), calls - i);
            }
            Check.badState(x, "undo() beyond them", x::undo);
            x.addWord(1, 7);
            Check.due("undo() of one more", x.undo(), 0);
            Check.due("word(a, 0)", x.word(1, 0), calls - states);
        }
    }

    private static void emptyStack() {
        Check.sentence("Throws `IllegalStateException` if the stack is empty");
        StuckKeys x = new StuckKeys();
        Check.badState(x, "undo() at first", x::undo);
        x.type('a');
        x.clearCommands();
        Check.badState(x, "undo() of no undoable call", x::undo);
        x.addWord(1, 1);
        Check.due("undo()", x.undo(), 0);
        Check.badState(x, "undo() again", x::undo);
        Check.badState(x, "undo() a third time", x::undo);
        Check.sentence("Restores the latest saved state and removes it from the undo stack");
        x.addWord(1, 1);
        x.addWord(1, 2);
        x.addWord(1, 3);
        Check.due("undo()", x.undo(), 2);
        x.addWord(1, 8);
        x.addWord(1, 9);
        for (int count : new int[] {8, 2, 1, 0}) {
            x.undo();
            Check.due("word(a, 0)", x.word(1, 0), count);
        }
    }

    private static void wholeStateButTheText() {
        Check.sentence("the whole state but the command text");
        StuckKeys x = new StuckKeys();
        Check.typeText(x, "name a;");
        x.addWord(1, 1);
        x.type(' ');
        x.runCommands();
        x.clearCommands();
        x.type('x');
        Check.due("undo()", x.undo(), 1);
        Check.due("whole(11)", x.whole(11), 1);
        Check.due("undo()", x.undo(), 0);
        Check.due("whole(11)", x.whole(11), 1);
        Check.due("runCommands()", x.runCommands(), -10);
    }

    private static void everyKeyComesBack() {
        Check.sentence("Restores the latest saved state");
        for (int letter = 0; letter < 26; letter++) {
            StuckKeys x = new StuckKeys();
            x.setStick(letter, 2);
            x.setStick(letter, 1);
            Check.due("undo()", x.undo(), 1);
            Check.due("key(" + letter + ", 3)", x.key(letter, 3), 2);
            Check.due("undo()", x.undo(), 0);
            Check.due("key(" + letter + ", 3)", x.key(letter, 3), 0);
        }
    }

    /** 20 words, 10 names, 24 pairs, 24 bans, 20 strange words, 20 corrections, of two other words by turns. */
    private static StuckKeys full() {
        StuckKeys x = Check.book("m", 1, "ppp", 2);
        x.set(0, 12);
        x.set(1, 9);
        x.set(2, 5);
        for (String word : Check.words('z', 18)) {
            x.addWord(w("zqzqzq" + word), 999);
        }
        for (int i = 1; i <= 10; i++) {
            x.addName(i);
        }
        for (int i = 0; i < 12; i++) {
            char last = (char) ('a' + i);
            Check.dueWord("correct(m" + last + ")", x.correct(w("m" + last)), "m");
            x.takeBack();
            Check.dueWord("correct(pp" + last + ")", x.correct(w("pp" + last)), "ppp");
            x.takeBack();
        }
        for (int i = 0; i < 12; i++) {
            char last = (char) ('a' + i);
            Check.dueWord("correct(k" + last + ")", x.correct(w("k" + last)), "m");
            Check.dueWord("correct(op" + last + ")", x.correct(w("op" + last)), "ppp");
        }
        int[] full = {20, 10, 24, 24, 20, 20};
        for (int what = 0; what < full.length; what++) {
            Check.due("whole(" + what + ")", x.whole(what), full[what]);
        }
        return x;
    }

    private static void fullTablesComeBack() {
        Check.sentence("Restores the latest saved state");
        String[] words = {"ma", "ppa", "mb", "mf", "ppf", "ppl", "m", "ppp"};
        StuckKeys x = full();
        List<Long> before = Seen.state(x, words);
        Check.due("a run that moves every row", Check.run(x, "drop m;name a;type kz;drop zqzqzqza;stick m 2;set 0 6;"
                + "set 1 1;set 2 1;allow ma m;type me;type xyz;back;allow mb m;back;word m 7;"), 15);
        x.clearCommands();
        Check.due("undo()", x.undo(), 3);
        x.addWord(w("m"), 1);
        Seen.same("full tables", Seen.state(x, words), before);
        for (String typed : new String[] {"kz", "opz", "jz", "ipz"}) {
            Check.due("a correction that moves every row", x.correct(w(typed)) == w(typed) ? 1 : 0, 0);
        }
        for (int left = 3; left >= 0; left--) {
            Check.due("undo()", x.undo(), left);
        }
        for (int i = 0; i < 4; i++) {
            x.addWord(w("m"), 1);
        }
        Seen.same("full tables again", Seen.state(x, words), before);
        movedByOtherCalls(before, words);
    }

    private static void movedByOtherCalls(List<Long> before, String... words) {
        StuckKeys x = full();
        Check.due("allow(ma, m)", x.allow(w("ma"), w("m")), 1);
        Check.due("allow(ppl, ppp)", x.allow(w("ppl"), w("ppp")), 1);
        Check.due("dropName(a)", x.dropName(1), 1);
        Check.dueWord("takeBack()", x.takeBack(), "opl");
        for (int left = 3; left >= 0; left--) {
            Check.due("undo()", x.undo(), left);
        }
        for (int i = 0; i < 4; i++) {
            x.addWord(w("m"), 1);
        }
        Seen.same("full tables after other calls", Seen.state(x, words), before);
    }

    private static void refusedCallsSaveNone() {
        Check.sentence("A call that throws an exception changes nothing");
        StuckKeys x = new StuckKeys();
        for (int count = 1; count <= 5; count++) {
            x.addWord(1, count);
        }
        for (int i = 0; i < 5; i++) {
            Check.badArgument(x, "addWord(a, 0)", () -> x.addWord(1, 0));
            Check.badArgument(x, "dropWord(0)", () -> x.dropWord(0));
            Check.badArgument(x, "addName(0)", () -> x.addName(0));
            Check.badArgument(x, "dropName(0)", () -> x.dropName(0));
            Check.badArgument(x, "setStick(0, 3)", () -> x.setStick(0, 3));
            Check.badArgument(x, "set(0, 13)", () -> x.set(0, 13));
            Check.badArgument(x, "correct(0)", () -> x.correct(0));
            Check.badState(x, "takeBack()", x::takeBack);
            Check.badArgument(x, "allow(0, a)", () -> x.allow(0, 1));
            Check.badArgument(x, "allow(a, 0)", () -> x.allow(1, 0));
        }
        for (int left = 3; left >= 0; left--) {
            Check.due("undo()", x.undo(), left);
            Check.due("word(a, 0)", x.word(1, 0), left + 1);
        }
        Check.badState(x, "undo()", x::undo);
    }

    private static void lastOfManyCalls() {
        Check.sentence("An object is used for at most 512 calls after it has been made");
        StuckKeys x = new StuckKeys();
        List<Long> counts = new ArrayList<>();
        for (int call = 1; call <= 507; call++) {
            counts.add((long) x.addWord(1, 1 + call % 999));
        }
        Check.due("the count before the 507th", counts.get(506), 507);
        for (int left = 3; left >= 0; left--) {
            Check.due("undo() as one of the last calls", x.undo(), left);
        }
        Check.due("the 512th", x.word(1, 0), 504);
    }
}
