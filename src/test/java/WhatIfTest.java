/** Promises 18 to 23: what if, which changes nothing. */
public final class WhatIfTest {
    public static void main(String[] args) {
        caseOf();
        suggestion();
        reason();
        risk();
        riskiest();
        bestDropping();
        nothingChanges();
        Check.end("WhatIfTest");
    }

    private static StuckKeys book() {
        StuckKeys x = new StuckKeys();
        x.addWord(Check.word("the"), 9);
        x.addWord(Check.word("then"), 3);
        x.addWord(Check.word("ten"), 3);
        x.addWord(Check.word("hen"), 7);
        x.addWord(Check.word("toe"), 1);
        return x;
    }

    private static void caseOf() {
        Check.sentence("Tells which case would apply to a typed word. - `typed`: a word Returns 0 to 4, as told"
                + " above.");
        StuckKeys x = book();
        x.addName(Check.word("the"));
        x.addName(Check.word("tehh"));
        Check.due("a word and a name", x.caseOf(Check.word("the")), 0);
        Check.due("a name", x.caseOf(Check.word("tehh")), 1);
        Check.due("near", x.caseOf(Check.word("teh")), 3);
        x.correct(Check.word("teh"));
        Check.due("learned once", x.caseOf(Check.word("teh")), 3);
        x.correct(Check.word("teh"));
        Check.due("learned twice", x.caseOf(Check.word("teh")), 2);
        Check.due("strange", x.caseOf(Check.word("xyz")), 4);
        Check.due("near one word alone", x.caseOf(Check.word("tthe")), 3);
        x.set(0, 0);
        Check.due("limit 0", x.caseOf(Check.word("thw")), 4);
        Check.sentence("Throws `IllegalArgumentException` if a word is none");
        for (long bad : Check.noWords()) {
            Check.badArgument(x, "caseOf(" + bad + ")", () -> x.caseOf(bad));
        }
    }

    private static void ranks(StuckKeys x, String typed, String... words) {
        for (int i = 0; i < words.length; i++) {
            Check.dueWord("suggestion(" + typed + ", " + i + ")", x.suggestion(Check.word(typed), i), words[i]);
        }
        Check.due("suggestion behind", x.suggestion(Check.word(typed), words.length), -1);
        Check.due("suggestion far behind", x.suggestion(Check.word(typed), Integer.MAX_VALUE), -1);
    }

    private static void suggestion() {
        Check.sentence("Returns a suggestion for a typed word: the words of the book with a distance that is at most"
                + " the limit, and not banned with it, by distances, then greater counts, then in order. - `typed`: a"
                + " word - `rank`: 0 for the first one, and so on");
        StuckKeys x = book();
        ranks(x, "teh", "the", "ten", "then");
        ranks(x, "the", "the", "then", "toe");
        ranks(x, "xyz");
        x.addName(Check.word("teh"));
        ranks(x, "teh", "the", "ten", "then");
        x.dropName(Check.word("teh"));
        x.correct(Check.word("teh"));
        x.takeBack();
        ranks(x, "teh", "ten", "then");
        StuckKeys y = new StuckKeys();
        y.addWord(Check.word("aw"), 2);
        y.addWord(Check.word("as"), 2);
        y.addWord(Check.word("aq"), 999);
        y.addWord(Check.word("aam"), 1);
        y.addWord(Check.word("am"), 1);
        ranks(y, "aa", "aq", "as", "aw", "aam", "am");
        y.set(0, 3);
        ranks(y, "aa", "aq", "as", "aw", "aam");
        y.dropWord(Check.word("as"));
        y.dropWord(Check.word("aw"));
        ranks(y, "aa", "aq", "aam");
        y.dropWord(Check.word("aq"));
        y.dropWord(Check.word("aam"));
        ranks(y, "aa");
        Check.sentence("Throws `IllegalArgumentException` if a word is none, or rank is negative");
        Check.badArgument(x, "suggestion(teh, -1)", () -> x.suggestion(Check.word("teh"), -1));
        for (long bad : Check.noWords()) {
            Check.badArgument(x, "suggestion(" + bad + ", 0)", () -> x.suggestion(bad, 0));
        }
    }

    private static void reason() {
        Check.sentence("Tells why a word would not be a suggestion. - `typed`: a word - `word`: a word Returns 1 it"
                + " is no word of the book, 2 it is banned, 3 it is too far; 0 if it is one; of several the first"
                + " one.");
        StuckKeys x = book();
        long teh = Check.word("teh");
        x.correct(teh);
        x.takeBack();
        Check.due("no word, though a name", reasonOfName(x), 1);
        Check.due("banned", x.reason(teh, Check.word("the")), 2);
        Check.due("too far", x.reason(teh, Check.word("hen")), 3);
        Check.due("it is one", x.reason(teh, Check.word("ten")), 0);
        Check.due("itself", x.reason(Check.word("ten"), Check.word("ten")), 0);
        x.set(0, 0);
        Check.due("banned and too far", x.reason(teh, Check.word("the")), 2);
        x.dropWord(Check.word("the"));
        Check.due("no word, banned and too far", x.reason(teh, Check.word("the")), 1);
        Check.sentence("Throws `IllegalArgumentException` if a word is none");
        for (long bad : Check.noWords()) {
            Check.badArgument(x, "reason(" + bad + ", teh)", () -> x.reason(bad, teh));
            Check.badArgument(x, "reason(teh, " + bad + ")", () -> x.reason(teh, bad));
        }
    }

    private static int reasonOfName(StuckKeys x) {
        x.addName(Check.word("tey"));
        return x.reason(Check.word("teh"), Check.word("tey"));
    }

    private static void risk() {
        Check.sentence("Counts the words of the book for which a word, typed by mistake, could be meant: the distance"
                + " from it to them is at most the limit, and they are not the same. - `word`: a word Returns the"
                + " number.");
        StuckKeys x = book();
        Check.due("risk(the) without itself", x.risk(Check.word("the")), 2);
        Check.due("risk(teh)", x.risk(Check.word("teh")), 3);
        Check.due("risk(xyz)", x.risk(Check.word("xyz")), 0);
        x.correct(Check.word("teh"));
        x.takeBack();
        Check.due("risk(teh), bans not counted", x.risk(Check.word("teh")), 3);
        StuckKeys y = new StuckKeys();
        y.addWord(Check.word("ab"), 1);
        y.addWord(Check.word("b"), 1);
        y.setStick(0, 1);
        y.set(0, 1);
        Check.due("the distance is from it to them", y.risk(Check.word("b")), 1);
        Check.due("and not from them to it", y.risk(Check.word("ab")), 0);
        Check.sentence("Throws `IllegalArgumentException` if a word is none");
        for (long bad : Check.noWords()) {
            Check.badArgument(x, "risk(" + bad + ")", () -> x.risk(bad));
        }
    }

    private static void riskiest() {
        Check.sentence("Returns the word of the book with the greatest risk. Returns the word, of several the first"
                + " one in order; NONE without words.");
        StuckKeys x = new StuckKeys();
        Check.due("without words", x.riskiest(), -1);
        x.addWord(Check.word("pppp"), 1);
        Check.dueWord("without risk", x.riskiest(), "pppp");
        x.addWord(Check.word("zzzz"), 1);
        Check.dueWord("of several the first one", x.riskiest(), "pppp");
        x.addWord(Check.word("zzz"), 1);
        Check.dueWord("with the greatest risk", x.riskiest(), "zzz");
        x.addWord(Check.word("zzzzz"), 999);
        Check.dueWord("with a greater one", x.riskiest(), "zzzz");
    }

    private static void bestDropping() {
        Check.sentence("Returns the key which, if it dropped letters (and all others stuck as they do), would bring a"
                + " typed word nearest to another one.");
        StuckKeys x = new StuckKeys();
        best(x, "te", "tree", 'e', 4);
        best(x, "a", "a", 'a', 0);
        best(x, "b", "bzz", 'z', 2);
        best(x, "b", "bcd", 'c', 4);
        best(x, "zzz", "zz", 'a', 3);
        x.setStick('z' - 'a', 2);
        best(x, "zzz", "zz", 'a', 1);
        best(x, "zzam", "zamz", 'a', 4);
        x.setStick(0, 2);
        best(x, "aal", "ala", 'a', 1);
        best(x, "aabb", "abb", 'b', 1);
        x.setStick('r' - 'a', 1);
        best(x, "te", "tree", 'e', 2);
        Check.due("the key sticks as it did", x.key('e' - 'a', 3), 0);
        Check.sentence("Throws `IllegalArgumentException` if a word is none");
        for (long bad : Check.noWords()) {
            Check.badArgument(x, "bestDropping(" + bad + ", a)", () -> x.bestDropping(bad, 1));
            Check.badArgument(x, "bestDropping(a, " + bad + ")", () -> x.bestDropping(1, bad));
        }
    }

    private static void best(StuckKeys x, String typed, String word, char letter, int distance) {
        Check.due("bestDropping(" + typed + ", " + word + ")",
                x.bestDropping(Check.word(typed), Check.word(word)), 100 * (letter - 'a') + distance);
    }

    private static void nothingChanges() {
        Check.sentence("what if, which changes nothing");
        StuckKeys x = book();
        long before = x.digest();
        x.caseOf(Check.word("the"));
        x.caseOf(Check.word("teh"));
        x.suggestion(Check.word("teh"), 0);
        x.reason(Check.word("teh"), Check.word("the"));
        x.risk(Check.word("teh"));
        x.riskiest();
        x.bestDropping(Check.word("teh"), Check.word("the"));
        Check.due("digest as before", x.digest(), before);
    }
}
