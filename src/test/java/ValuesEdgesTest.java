/** Promises 11 to 14, 16, 19 to 23 and 28: values, what-if questions and the digest, with tables empty and full. */
public final class ValuesEdgesTest {
    private static final int[] EXTREMES = {-1, Integer.MIN_VALUE, Integer.MAX_VALUE};

    public static void main(String[] args) {
        wordValues();
        wordValuesOfMany();
        listed();
        pairs();
        logged();
        whole();
        wholeOfFullTables();
        suggestions();
        twentySuggestions();
        rankOutOfRange();
        reasonsInOrder();
        risks();
        riskiest();
        askingChangesNothing();
        digestOfNothing();
        digestOfFullTables();
        digestWraps();
        Check.end("ValuesEdgesTest");
    }

    private static long w(String word) {
        return Check.word(word);
    }

    private static void wordValues() {
        Check.sentence("Returns a value of any word");
        StuckKeys x = new StuckKeys();
        for (String word : new String[] {"a", "the", "zzzzzzzz"}) {
            int[] due = {0, 0, 0, word.length(), StuckKeys.NONE, 0, 0};
            for (int what = 0; what <= 6; what++) {
                Check.due("word(" + word + ", " + what + ")", x.word(w(word), what), due[what]);
            }
            for (int what : new int[] {-1, 7, 8, Integer.MIN_VALUE, Integer.MAX_VALUE}) {
                Check.badArgument(x, "word(" + word + ", " + what + ")", () -> x.word(w(word), what));
            }
        }
        Check.badArgument(x, "word(0, 7)", () -> x.word(0, 7));
        Check.badArgument(x, "word(0, 4)", () -> x.word(0, 4));
        Check.due("word(abcdefgh, 3)", x.word(w("abcdefgh"), 3), 8);
        Check.due("word(abcdefg, 3)", x.word(w("abcdefg"), 3), 7);
    }

    private static void wordValuesOfMany() {
        Check.sentence("5 the pairs with it as typed word, 6 the bans with it as typed word");
        StuckKeys x = new StuckKeys();
        x.set(0, 12);
        x.set(1, 9);
        x.set(2, 5);
        for (int i = 0; i < 20; i++) {
            String word = Check.words('m', 20)[i];
            x.addWord(w(word), 999);
            Check.dueWord("correct(m)", Check.correct(x, "m"), word);
            x.dropWord(w(word));
            Check.due("word(m, 5)", x.word(w("m"), 5), i + 1);
        }
        Check.due("word(ma, 5)", x.word(w("ma"), 5), 0);
        for (int i = 1; i <= 20; i++) {
            x.takeBack();
            Check.due("word(m, 5)", x.word(w("m"), 5), 20 - i);
            Check.due("word(m, 6)", x.word(w("m"), 6), i);
        }
        Check.due("word(ma, 6)", x.word(w("ma"), 6), 0);
        Check.due("word(m, 1)", x.word(w("m"), 1), 1);
    }

    private static void listed() {
        Check.sentence("Returns the word; NONE if there are not so many");
        StuckKeys x = new StuckKeys();
        for (String word : Check.words('b', 20)) {
            x.addWord(w(word), 1);
        }
        for (String name : Check.words('c', 10)) {
            x.addName(w(name));
        }
        for (int i = 0; i <= 25; i++) {
            Check.due("listed(false, " + i + ")", x.listed(false, i), i < 20 ? w("b") * 32 + i + 1 : -1);
            Check.due("listed(true, " + i + ")", x.listed(true, i), i < 10 ? w("c") * 32 + i + 1 : -1);
        }
        x.dropWord(w("bt"));
        x.dropName(w("cj"));
        Check.due("listed(false, 19) with 19", x.listed(false, 19), -1);
        Check.due("listed(true, 9) with 9", x.listed(true, 9), -1);
        for (boolean names : new boolean[] {false, true}) {
            Check.due("listed(.., MAX)", x.listed(names, Integer.MAX_VALUE), -1);
            Check.badArgument(x, "listed(.., -1)", () -> x.listed(names, -1));
            Check.badArgument(x, "listed(.., MIN)", () -> x.listed(names, Integer.MIN_VALUE));
        }
    }

    private static StuckKeys nearM(String... typed) {
        StuckKeys x = Check.book("m", 1);
        x.set(0, 12);
        x.set(1, 9);
        Check.correctAll(x, typed);
        return x;
    }

    private static void pairs() {
        Check.sentence("`index`: 0 for the one that was learned first, and so on");
        StuckKeys x = nearM(Check.words('k', 24));
        Check.correctAll(x, "kx", "kx");
        for (int i = 0; i <= 25; i++) {
            Check.due("pair(" + i + ", 0)", x.pair(i, 0), i < 24 ? w("k") * 32 + i + 1 : -1);
            Check.due("pair(" + i + ", 1)", x.pair(i, 1), i < 24 ? w("m") : -1);
            Check.due("pair(" + i + ", 2)", x.pair(i, 2), i < 23 ? 1 : i == 23 ? 3 : -1);
        }
        indexesAndValues(x, x::pair, "pair");
    }

    private static void logged() {
        Check.sentence("`index`: 0 for the latest one, and so on");
        StuckKeys x = nearM(Check.words('k', 24));
        x.takeBack();
        x.takeBack();
        for (int i = 0; i <= 21; i++) {
            Check.due("logged(" + i + ", 0)", x.logged(i, 0), i < 20 ? w("k") * 32 + 24 - i : -1);
            Check.due("logged(" + i + ", 1)", x.logged(i, 1), i < 20 ? w("m") : -1);
            Check.due("logged(" + i + ", 2)", x.logged(i, 2), i < 2 ? 1 : i < 20 ? 0 : -1);
        }
        indexesAndValues(x, x::logged, "logged");
    }

    private interface Asked {
        long of(int index, int what);
    }

    private static void indexesAndValues(StuckKeys x, Asked asked, String call) {
        Check.sentence("Throws `IllegalArgumentException` if index is negative, or what is out of range");
        for (int what = 0; what <= 2; what++) {
            int value = what;
            Check.due(call + "(MAX, " + what + ")", asked.of(Integer.MAX_VALUE, what), -1);
            Check.badArgument(x, call + "(-1, " + what + ")", () -> asked.of(-1, value));
            Check.badArgument(x, call + "(MIN, " + what + ")", () -> asked.of(Integer.MIN_VALUE, value));
        }
        for (int what : new int[] {-1, 3, 4, Integer.MIN_VALUE, Integer.MAX_VALUE}) {
            Check.badArgument(x, call + "(0, " + what + ")", () -> asked.of(0, what));
            Check.badArgument(x, call + "(99, " + what + ")", () -> asked.of(99, what));
            Check.badArgument(x, call + "(-1, " + what + ")", () -> asked.of(-1, what));
        }
    }

    private static void whole() {
        Check.sentence("Returns a value of the whole");
        StuckKeys x = new StuckKeys();
        int[] due = {0, 0, 0, 0, 0, 0, 0, 4, 2, 3, 0, 0};
        for (int what = 0; what <= 11; what++) {
            Check.due("whole(" + what + ")", x.whole(what), due[what]);
        }
        for (int what : new int[] {-1, 12, 13, Integer.MIN_VALUE, Integer.MAX_VALUE}) {
            Check.badArgument(x, "whole(" + what + ")", () -> x.whole(what));
        }
    }

    /** 20 words, 10 names, 24 pairs, 24 bans, 20 strange words and 20 corrections, none of them undone. */
    private static StuckKeys full() {
        StuckKeys x = nearM();
        x.set(2, 5);
        for (String word : Check.words('z', 19)) {
            x.addWord(w("zqzqzq" + word), 999);
        }
        for (String name : Check.words('n', 10)) {
            x.addName(w(name));
        }
        for (String typed : Check.words('m', 24)) {
            x.correct(w(typed));
            x.takeBack();
        }
        Check.correctAll(x, Check.words('k', 24));
        return x;
    }

    private static void wholeOfFullTables() {
        Check.sentence("0 words, 1 names, 2 pairs, 3 bans, 4 strange words, 5 corrections in the log, 6 of these"
                + " those that are undone");
        StuckKeys x = full();
        int[] due = {20, 10, 24, 24, 20, 20, 0, 12, 9, 5, 19 * 999 + 1, 0};
        for (int what = 0; what <= 11; what++) {
            Check.due("whole(" + what + ")", x.whole(what), due[what]);
        }
        for (int i = 1; i <= 20; i++) {
            x.allow(w("ma") + i - 1, w("m"));
            x.takeBack();
            Check.due("whole(6)", x.whole(6), i);
        }
        Check.due("whole(3)", x.whole(3), 24);
        Check.due("whole(2)", x.whole(2), 4);
    }

    private static void ranks(StuckKeys x, String typed, String... words) {
        for (int rank = 0; rank < words.length; rank++) {
            Check.dueWord("suggestion(" + typed + ", " + rank + ")", x.suggestion(w(typed), rank), words[rank]);
        }
        Check.due("suggestion behind the last", x.suggestion(w(typed), words.length), -1);
        Check.due("suggestion at rank 20", x.suggestion(w(typed), 20), -1);
        Check.due("suggestion at rank MAX", x.suggestion(w(typed), Integer.MAX_VALUE), -1);
    }

    private static void suggestions() {
        Check.sentence("by distances, then greater counts, then in order");
        StuckKeys x = Check.book("aaz", 1, "aq", 998, "as", 999, "aw", 998, "az", 1, "am", 999, "aal", 2, "aak", 999);
        ranks(x, "aa", "as", "aq", "aw", "az", "aak", "aal", "aaz", "am");
        x.addWord(w("aa"), 1);
        ranks(x, "aa", "aa", "as", "aq", "aw", "az", "aak", "aal", "aaz", "am");
        x.set(0, 3);
        ranks(x, "aa", "aa", "as", "aq", "aw", "az", "aak", "aal", "aaz");
        x.set(0, 2);
        ranks(x, "aa", "aa", "as", "aq", "aw", "az");
        x.set(0, 1);
        ranks(x, "aa", "aa");
        x.set(0, 0);
        ranks(x, "aa", "aa");
        ranks(x, "ax");
        x.set(0, 4);
        x.dropWord(w("aa"));
        Check.sentence("and not banned with it");
        Check.dueWord("correct(aa)", Check.correct(x, "aa"), "as");
        x.takeBack();
        ranks(x, "aa", "aq", "aw", "az", "aak", "aal", "aaz", "am");
        Check.dueWord("correct(aa)", Check.correct(x, "aa"), "aq");
        x.takeBack();
        ranks(x, "aa", "aw", "az", "aak", "aal", "aaz", "am");
        x.allow(w("aa"), w("as"));
        ranks(x, "aa", "as", "aw", "az", "aak", "aal", "aaz", "am");
        ranks(new StuckKeys(), "aa");
    }

    private static void twentySuggestions() {
        Check.sentence("Returns the word; NONE if there are not so many");
        StuckKeys x = new StuckKeys();
        String[] words = Check.words('m', 20);
        for (int i = 0; i < 20; i++) {
            x.addWord(w(words[19 - i]), 7);
        }
        x.set(0, 12);
        ranks(x, "m", words);
        Check.dueWord("correct(m)", Check.correct(x, "m"), "ma");
        x.addWord(w("mt"), 8);
        Check.dueWord("suggestion(m, 0)", x.suggestion(w("m"), 0), "mt");
        Check.dueWord("suggestion(m, 19)", x.suggestion(w("m"), 19), "ms");
        Check.due("risk(m): all of them", x.risk(w("m")), 20);
        Check.due("risk(ma): all but itself", x.risk(w("ma")), 19);
        Check.dueWord("riskiest()", x.riskiest(), "ma");
    }

    private static void rankOutOfRange() {
        Check.sentence("Throws `IllegalArgumentException` if a word is none, or rank is negative");
        StuckKeys x = Check.book("the", 5);
        for (int rank : new int[] {-1, -2, Integer.MIN_VALUE}) {
            Check.badArgument(x, "suggestion(teh, " + rank + ")", () -> x.suggestion(w("teh"), rank));
            Check.badArgument(x, "suggestion(zip, " + rank + ")", () -> x.suggestion(w("zip"), rank));
            Check.badArgument(x, "suggestion(0, " + rank + ")", () -> x.suggestion(0, rank));
        }
        Check.badArgument(x, "suggestion(0, MAX)", () -> x.suggestion(0, Integer.MAX_VALUE));
    }

    private static void reasonsInOrder() {
        Check.sentence("1 it is no word of the book, 2 it is banned, 3 it is too far; 0 if it is one; of several the"
                + " first one");
        StuckKeys x = Check.book("the", 5, "zzzz", 1);
        long teh = w("teh");
        long the = w("the");
        Check.due("a word", x.reason(teh, the), 0);
        Check.due("too far", x.reason(teh, w("zzzz")), 3);
        Check.due("none", x.reason(teh, w("ten")), 1);
        Check.due("none, and itself", x.reason(teh, teh), 1);
        Check.due("none and too far", x.reason(teh, w("zzz")), 1);
        x.correct(teh);
        x.takeBack();
        Check.due("banned", x.reason(teh, the), 2);
        x.set(0, 0);
        Check.due("banned and too far", x.reason(teh, the), 2);
        x.dropWord(the);
        Check.due("none, banned and too far", x.reason(teh, the), 1);
        x.addName(the);
        Check.due("a name alone", x.reason(teh, the), 1);
        x.set(0, 4);
        Check.due("none and banned", x.reason(teh, the), 1);
        x.addWord(the, 1);
        Check.due("banned, word and name", x.reason(teh, the), 2);
        x.allow(teh, the);
        Check.due("allowed", x.reason(teh, the), 0);
    }

    private static void risks() {
        Check.sentence("the distance from it to them is at most the limit, and they are not the same");
        StuckKeys x = Check.book("aq", 1, "as", 1, "am", 1);
        Check.due("risk(aa)", x.risk(w("aa")), 3);
        Check.due("risk(as): w of the book", x.risk(w("as")), 2);
        x.set(0, 3);
        Check.due("risk(aa) with limit 3", x.risk(w("aa")), 2);
        x.set(0, 2);
        Check.due("risk(aa) with limit 2", x.risk(w("aa")), 2);
        x.set(0, 1);
        Check.due("risk(aa) with limit 1", x.risk(w("aa")), 0);
        Check.due("risk(as) with limit 1", x.risk(w("as")), 0);
        x.set(0, 4);
        x.addName(w("aa"));
        Check.due("risk of a name", x.risk(w("aa")), 3);
        x.correct(w("ax"));
        x.takeBack();
        Check.due("risk(ax), one being banned with it", x.risk(w("ax")), 3);
        Check.due("risk without words", new StuckKeys().risk(1), 0);
        StuckKeys y = Check.book("a", 1, "ab", 1);
        y.setStick(1, 1);
        y.set(0, 1);
        Check.due("risk(a): from it", y.risk(w("a")), 1);
        Check.due("risk(ab): not to it", y.risk(w("ab")), 0);
    }

    private static void riskiest() {
        Check.sentence("Returns the word, of several the first one in order; NONE without words");
        StuckKeys x = new StuckKeys();
        x.addName(w("as"));
        Check.due("riskiest() with names alone", x.riskiest(), -1);
        x.addWord(w("zzzzzzzz"), 1);
        Check.dueWord("riskiest() of one", x.riskiest(), "zzzzzzzz");
        x.addWord(w("mm"), 1);
        Check.dueWord("riskiest() of two without risk", x.riskiest(), "mm");
        x.addWord(w("qw"), 1);
        x.addWord(w("we"), 1);
        Check.dueWord("riskiest() of two with one each", x.riskiest(), "qw");
        x.addWord(w("er"), 1);
        Check.dueWord("riskiest() of the middle one", x.riskiest(), "we");
        x.set(0, 0);
        Check.dueWord("riskiest() with limit 0", x.riskiest(), "er");
        for (String word : new String[] {"er", "mm", "qw", "we", "zzzzzzzz"}) {
            x.dropWord(w(word));
        }
        Check.due("riskiest() without words", x.riskiest(), -1);
    }

    private static void askingChangesNothing() {
        Check.sentence("what if, which changes nothing");
        StuckKeys x = full();
        long before = x.digest();
        for (String typed : new String[] {"ma", "kx", "m", "na", "zip", "zqzqzqza"}) {
            x.caseOf(w(typed));
            x.suggestion(w(typed), 0);
            x.suggestion(w(typed), 19);
            x.reason(w(typed), w("m"));
            x.risk(w(typed));
            x.bestDropping(w(typed), w("m"));
            x.distance(w(typed), w("m"));
        }
        x.riskiest();
        Check.due("digest()", x.digest(), before);
        Check.due("digest() again", x.digest(), before);
        Check.due("word(zip, 2)", x.word(w("zip"), 2), 0);
        Check.due("word(mf, 2)", x.word(w("mf"), 2), 1);
        Check.due("undo()", x.undo(), 3);
    }

    private static void digestOfNothing() {
        Check.sentence("It starts with h = 43304. For each of the following values v, in this order, h becomes 31 * h"
                + " + v");
        long hash = 43304;
        int[] values = {0, 0, 0, 0, 0, 0, 0, 0, 4, 2, 3, 0, 0};
        for (int value : values) {
            hash = 31 * hash + value;
        }
        for (int letter = 0; letter < 26; letter++) {
            hash = 31 * hash;
        }
        Check.due("digest() of a new object", new StuckKeys().digest(), hash);
        StuckKeys x = new StuckKeys();
        x.setStick(0, 1);
        x.setStick(25, 2);
        x.type(127);
        Check.due("digest()", x.digest(), digestOf(x, 2));
        x.undo();
        Check.due("digest() after undo", x.digest(), digestOf(x, 1));
    }

    private static void digestOfFullTables() {
        Check.sentence("the number of states on the undo stack; whole() of 0 to 11; for each letter key() of 3; for"
                + " each word of the book, in order, the word, its word() of 0 to 6, and risk()");
        StuckKeys x = full();
        Check.due("digest() of full tables", x.digest(), digestOf(x, 4));
        StuckKeys y = nearM("ma", "mb", "mb", "mc", "md");
        y.takeBack();
        y.addWord(w("mb"), 9);
        y.addWord(w("md"), 999);
        y.addName(w("mb"));
        y.addName(w("a"));
        y.takeBack();
        y.setStick(12, 2);
        Check.due("digest()", y.digest(), digestOf(y, 4));
        Check.due("digest() again", y.digest(), digestOf(y, 4));
        y.undo();
        y.undo();
        Check.due("digest() after undo", y.digest(), digestOf(y, 2));
    }

    private static void digestWraps() {
        Check.sentence("long arithmetic, overflow wraps");
        StuckKeys x = new StuckKeys();
        for (int i = 0; i < 10; i++) {
            x.addName(w("zzzzzzzz") - i);
        }
        Check.due("digest()", x.digest(), digestOf(x, 4));
    }

    private static long digestOf(StuckKeys x, int states) {
        long h = 31 * 43304L + states;
        int[] sizes = new int[12];
        for (int what = 0; what <= 11; what++) {
            sizes[what] = x.whole(what);
            h = 31 * h + sizes[what];
        }
        for (int letter = 0; letter < 26; letter++) {
            h = 31 * h + x.key(letter, 3);
        }
        for (int i = 0; i < sizes[0]; i++) {
            long word = x.listed(false, i);
            h = 31 * h + word;
            for (int what = 0; what <= 6; what++) {
                h = 31 * h + x.word(word, what);
            }
            h = 31 * h + x.risk(word);
        }
        for (int i = 0; i < sizes[1]; i++) {
            h = 31 * h + x.listed(true, i);
        }
        for (int i = 0; i < sizes[2]; i++) {
            h = 31 * (31 * (31 * h + x.pair(i, 0)) + x.pair(i, 1)) + x.pair(i, 2);
        }
        for (int i = 0; i < sizes[5]; i++) {
            h = 31 * (31 * (31 * h + x.logged(i, 0)) + x.logged(i, 1)) + x.logged(i, 2);
        }
        return h;
    }
}
