/** Promises 8 to 10: correct, takeBack and allow. */
public final class TypingTest {
    public static void main(String[] args) {
        wordOfTheBook();
        name();
        trustedPair();
        pairsOfSeveral();
        pairWhoseWordIsGone();
        nearestWord();
        strangeWord();
        strangeWordsForgotten();
        namesFull();
        timesOfPairsEnd();
        pairsForgotten();
        logForgets();
        takeBack();
        takeBackOfWordsAndNames();
        takeBackWithBansFull();
        allow();
        Check.end("TypingTest");
    }

    private static long c(StuckKeys x, String typed) {
        return x.correct(Check.word(typed));
    }

    private static StuckKeys bookOf(Object... wordsAndCounts) {
        StuckKeys x = new StuckKeys();
        for (int i = 0; i < wordsAndCounts.length; i += 2) {
            x.addWord(Check.word((String) wordsAndCounts[i]), (Integer) wordsAndCounts[i + 1]);
        }
        return x;
    }

    private static void wordOfTheBook() {
        Check.sentence("0 It is a word of the book: its count increases by 1 (up to 999), and it stays.");
        StuckKeys x = bookOf("the", 997);
        for (int count = 998; count <= 1000; count++) {
            Check.dueWord("correct(the)", c(x, "the"), "the");
            Check.due("its count", x.word(Check.word("the"), 0), Math.min(count, 999));
        }
        Check.due("no correction", x.whole(5), 0);
        Check.due("no strange word", x.whole(4), 0);
        Check.sentence("Corrects a typed word. Undoable.");
        Check.due("undo", x.undo(), 3);
        Check.due("undo", x.undo(), 2);
        Check.due("its count", x.word(Check.word("the"), 0), 998);
        Check.sentence("`typed`: a word");
        for (long bad : Check.noWords()) {
            Check.badArgument(x, "correct(" + bad + ")", () -> x.correct(bad));
        }
    }

    private static void name() {
        Check.sentence("1 It is a name: it stays.");
        StuckKeys x = bookOf("the", 5);
        x.addName(Check.word("teh"));
        Check.dueWord("correct of a name", c(x, "teh"), "teh");
        Check.due("no correction", x.whole(5), 0);
        Check.due("not strange", x.whole(4), 0);
        Check.sentence("When a word is typed, the first of these applies");
        x.addWord(Check.word("teh"), 1);
        c(x, "teh");
        Check.due("as a word of the book its count increases", x.word(Check.word("teh"), 0), 2);
    }

    private static void trustedPair() {
        Check.sentence("Returns the word that it becomes, or the same one.");
        StuckKeys x = bookOf("the", 5);
        Check.dueWord("correct(teh)", c(x, "teh"), "the");
        Check.due("the word's count stays", x.word(Check.word("the"), 0), 5);
        Check.sentence("2 There are pairs with this typed word, at least as many times as the trust");
        x.addWord(Check.word("tea"), 9);
        Check.due("one time is no trust", x.caseOf(Check.word("teh")), 3);
        Check.dueWord("teh with the nearest of the greatest count", c(x, "teh"), "the");
        Check.due("two times are", x.caseOf(Check.word("teh")), 2);
        x.set(0, 0);
        Check.dueWord("pairs need no distance", c(x, "teh"), "the");
        Check.due("times", x.pair(0, 2), 3);
        x.set(1, 4);
        Check.dueWord("too few times for the trust", c(x, "teh"), "teh");
        Check.due("strange then", x.word(Check.word("teh"), 2), 1);
    }

    private static void pairsOfSeveral() {
        Check.sentence("it becomes the other word of the one with the greatest number of times, of several of the one"
                + " that was learned first.");
        StuckKeys x = new StuckKeys();
        x.set(1, 9);
        learn(x, "aa", "as", 2);
        learn(x, "aa", "aq", 3);
        learn(x, "aa", "aw", 3);
        x.addWord(Check.word("as"), 1);
        x.addWord(Check.word("aq"), 1);
        x.addWord(Check.word("aw"), 1);
        x.set(1, 2);
        Check.dueWord("most times, learned first", c(x, "aa"), "aq");
        Check.sentence("that are not banned, and whose other word is a word of the book or a name");
        x.takeBack();
        Check.dueWord("then the other one", c(x, "aa"), "aw");
        x.dropWord(Check.word("aw"));
        Check.dueWord("then that with fewer", c(x, "aa"), "as");
    }

    private static void learn(StuckKeys x, String typed, String word, int times) {
        x.addWord(Check.word(word), 1);
        for (int i = 0; i < times; i++) {
            Check.dueWord("learning " + typed, c(x, typed), word);
        }
        x.dropWord(Check.word(word));
    }

    private static void pairWhoseWordIsGone() {
        Check.sentence("and whose other word is a word of the book or a name");
        StuckKeys x = bookOf("the", 5);
        c(x, "teh");
        c(x, "teh");
        x.dropWord(Check.word("the"));
        Check.due("the other word is gone", x.caseOf(Check.word("teh")), 4);
        Check.due("but the pair stays", x.word(Check.word("teh"), 5), 1);
        x.addName(Check.word("the"));
        Check.due("the other word is a name", x.caseOf(Check.word("teh")), 2);
        Check.dueWord("and typed so", c(x, "teh"), "the");
        Check.due("logged", x.logged(0, 1), Check.word("the"));
    }

    private static void nearestWord() {
        Check.sentence("it becomes the nearest one, of several that with the greatest count, of several the first one"
                + " in order.");
        StuckKeys x = bookOf("aq", 1, "as", 3, "aw", 3, "am", 9);
        Check.dueWord("of the nearest the greatest count, then the first", c(x, "aa"), "as");
        Check.sentence("With 2 and 3 there is a correction, which is put into the log, and is learned");
        Check.due("correction in the log", x.logged(0, 0), Check.word("aa"));
        Check.due("with its word", x.logged(0, 1), Check.word("as"));
        Check.due("not undone", x.logged(0, 2), 0);
        Check.due("learned", x.pair(0, 2), 1);
        Check.sentence("3 There are words of the book with a distance from it that is at most the limit, and not"
                + " banned with it");
        x.set(0, 1);
        Check.dueWord("too far", c(x, "aa"), "aa");
        x.set(0, 2);
        Check.dueWord("just near enough", c(x, "aa"), "as");
        Check.sentence("it becomes the nearest one");
        StuckKeys y = bookOf("ab", 1, "b", 999);
        Check.dueWord("nearer is better than more often", c(y, "av"), "ab");
    }

    private static void strangeWord() {
        Check.sentence("4 It stays, and is strange: its number of times as a strange word increases by 1");
        StuckKeys x = new StuckKeys();
        for (int times = 1; times <= 2; times++) {
            Check.dueWord("correct(zip)", c(x, "zip"), "zip");
            Check.due("times", x.word(Check.word("zip"), 2), times);
            Check.due("no name yet", x.word(Check.word("zip"), 1), 0);
        }
        Check.sentence("it becomes a name (if it is none yet) and is no strange word any more.");
        c(x, "zip");
        Check.due("a name at the patience", x.word(Check.word("zip"), 1), 1);
        Check.due("strange no more", x.whole(4), 0);
        Check.sentence("if it is just the patience then");
        x.addWord(Check.word("zap"), 1);
        x.addName(Check.word("zep"));
        x.set(0, 0);
        c(x, "zup");
        c(x, "zup");
        x.set(2, 1);
        c(x, "zup");
        Check.due("beyond the patience is not just the patience", x.word(Check.word("zup"), 2), 3);
        Check.sentence("A strange word that is added as a word or as a name otherwise stays strange.");
        x.addWord(Check.word("zup"), 1);
        x.addName(Check.word("zup"));
        Check.due("an added one stays strange", x.word(Check.word("zup"), 2), 3);
    }

    private static void strangeWordsForgotten() {
        Check.sentence("If there are 20 strange words, and it is none, the one that came first is forgotten, also if"
                + " this one becomes a name then.");
        StuckKeys x = new StuckKeys();
        x.set(2, 5);
        for (int i = 1; i <= 20; i++) {
            c(x, "q" + (char) ('a' + i));
        }
        c(x, "qb");
        c(x, "qa");
        Check.due("the first is forgotten, though it came again", x.word(Check.word("qb"), 2), 0);
        Check.due("the second stays", x.word(Check.word("qc"), 2), 1);
        Check.sentence("at most 20 strange words with numbers of times");
        Check.due("strange words", x.whole(4), 20);
        x.set(2, 1);
        c(x, "zz");
        Check.due("forgotten also for one that is a name at once", x.word(Check.word("qc"), 2), 0);
        Check.due("which is one", x.word(Check.word("zz"), 1), 1);
        Check.due("strange words then", x.whole(4), 19);
        c(x, "qd");
        Check.due("one that is there forgets none", x.whole(4), 19);
    }

    private static void namesFull() {
        Check.sentence("and there are fewer than 10 names");
        StuckKeys x = new StuckKeys();
        x.set(2, 1);
        for (int i = 1; i <= 10; i++) {
            x.addName(i);
        }
        Check.dueWord("correct with names full", c(x, "qq"), "qq");
        Check.due("is no name", x.word(Check.word("qq"), 1), 0);
        Check.due("but strange", x.word(Check.word("qq"), 2), 1);
        x.dropName(1);
        c(x, "qq");
        Check.due("nor later, being beyond the patience", x.word(Check.word("qq"), 2), 2);
        c(x, "ww");
        Check.due("another one is a name", x.word(Check.word("ww"), 1), 1);
    }

    private static void timesOfPairsEnd() {
        Check.sentence("the times of this pair increase by 1 (up to 99); a new pair has 1 time");
        StuckKeys x = bookOf("the", 1);
        for (int times = 1; times <= 101; times++) {
            c(x, "teh");
            Check.due("times", x.pair(0, 2), Math.min(times, 99));
        }
        Check.due("corrections in the log", x.whole(5), 20);
    }

    private static void pairsForgotten() {
        Check.sentence("and if there are 24, that with the least number of times, of several the one that was learned"
                + " first, is forgotten.");
        StuckKeys x = bookOf("m", 1);
        x.set(0, 12);
        x.set(1, 9);
        String letters = "abcdefghijklnopqrstuvwxy";
        for (int i = 0; i < 24; i++) {
            c(x, letters.substring(i, i + 1));
        }
        c(x, "a");
        Check.sentence("at most 24 pairs that were learned (a typed word and another one, with a number of times), in"
                + " the order in which they were learned");
        Check.due("pairs", x.whole(2), 24);
        c(x, "z");
        Check.due("pairs still", x.whole(2), 24);
        Check.dueWord("that with two times stays", x.pair(0, 0), "a");
        Check.dueWord("the first with one goes", x.pair(1, 0), "c");
        Check.dueWord("the new one is last", x.pair(23, 0), "z");
        Check.due("with one time", x.pair(23, 2), 1);
        c(x, "c");
        Check.dueWord("the order stays", x.pair(1, 0), "c");
        Check.due("with two times", x.pair(1, 2), 2);
        c(x, "b");
        Check.dueWord("a forgotten one comes anew, last", x.pair(23, 0), "b");
        Check.dueWord("and the next one goes", x.pair(2, 0), "e");
        Check.due("of the typed word none is left", x.word(Check.word("d"), 5), 0);
        firstPairForgotten();
    }

    private static void firstPairForgotten() {
        Check.sentence("of several the one that was learned first, is forgotten.");
        StuckKeys x = bookOf("m", 1);
        x.set(0, 12);
        for (int i = 0; i < 25; i++) {
            c(x, "m" + (char) ('a' + i));
        }
        Check.dueWord("the very first goes", x.pair(0, 0), "mb");
        Check.dueWord("the new one is last", x.pair(23, 0), "my");
    }

    private static void logForgets() {
        Check.sentence("and a log of the latest 20 corrections (a typed word and another one, undone or not).");
        StuckKeys x = bookOf("m", 1);
        x.set(0, 12);
        for (int i = 0; i < 25; i++) {
            c(x, "m" + (char) ('a' + i));
        }
        Check.due("corrections", x.whole(5), 20);
        Check.dueWord("the latest", x.logged(0, 0), "my");
        Check.dueWord("the oldest that is left", x.logged(19, 0), "mf");
        Check.sentence("Undoes the latest correction of the log that is not undone.");
        for (int i = 0; i < 20; i++) {
            Check.dueWord("takeBack", x.takeBack(), "m" + (char) ('y' - i));
        }
        Check.badState(x, "takeBack()", x::takeBack);
    }

    private static void takeBack() {
        Check.sentence("Throws `IllegalStateException` if there is none");
        StuckKeys x = bookOf("the", 5, "ten", 1);
        Check.badState(x, "takeBack of none", x::takeBack);
        Check.sentence("Returns the typed word.");
        c(x, "teh");
        c(x, "thr");
        c(x, "teh");
        Check.dueWord("takeBack", x.takeBack(), "teh");
        Check.sentence("it is marked so, its pair is banned, and is not learned any more; the typed word is strange"
                + " once more, as with 4");
        Check.due("undone", x.logged(0, 2), 1);
        Check.due("the others not", x.whole(6), 1);
        Check.due("banned", x.whole(3), 1);
        Check.due("by its typed word", x.word(Check.word("teh"), 6), 1);
        Check.due("learned no more", x.word(Check.word("teh"), 5), 0);
        Check.due("the other pair is", x.word(Check.word("thr"), 5), 1);
        Check.due("strange once", x.word(Check.word("teh"), 2), 1);
        Check.sentence("Undoes the latest correction of the log that is not undone. Undoable.");
        Check.due("undo", x.undo(), 3);
        Check.due("not undone after undo", x.logged(0, 2), 0);
        Check.due("no ban after undo", x.whole(3), 0);
        Check.dueWord("takeBack again", x.takeBack(), "teh");
        Check.dueWord("never corrected so again", c(x, "teh"), "ten");
        Check.dueWord("takeBack of that", x.takeBack(), "teh");
        Check.dueWord("takeBack of the next not undone", x.takeBack(), "thr");
        Check.dueWord("takeBack of the oldest", x.takeBack(), "teh");
        Check.due("a pair is banned once", x.whole(3), 3);
        Check.due("it is a name after three times", x.word(Check.word("teh"), 1), 1);
        Check.due("and strange no more", x.word(Check.word("teh"), 2), 0);
        Check.badState(x, "takeBack when all are undone", x::takeBack);
    }

    private static void takeBackOfWordsAndNames() {
        Check.sentence("also if it is a word of the book or a name by then");
        StuckKeys x = bookOf("the", 5);
        for (int i = 0; i < 4; i++) {
            c(x, "teh");
        }
        x.addWord(Check.word("teh"), 1);
        x.addName(Check.word("teh"));
        x.takeBack();
        x.takeBack();
        Check.due("a word and name is strange too", x.word(Check.word("teh"), 2), 2);
        x.takeBack();
        Check.due("at the patience no more", x.word(Check.word("teh"), 2), 0);
        Check.due("still one name", x.whole(1), 1);
        for (int i = 1; i <= 9; i++) {
            x.addName(i);
        }
        x.set(2, 1);
        x.takeBack();
        Check.due("with ten names it stays strange", x.word(Check.word("teh"), 2), 1);
        Check.due("names", x.whole(1), 10);
    }

    private static void takeBackWithBansFull() {
        Check.sentence("or there are 24 bans and its pair is not among them");
        StuckKeys x = bookOf("m", 1);
        x.set(0, 12);
        for (int i = 0; i < 24; i++) {
            c(x, "m" + (char) ('a' + i));
            x.takeBack();
        }
        Check.due("bans", x.whole(3), 24);
        c(x, "my");
        Check.badState(x, "takeBack with 24 bans", x::takeBack);
        x.allow(Check.word("ma"), Check.word("m"));
        c(x, "ma");
        c(x, "ma");
        x.takeBack();
        Check.due("bans again", x.whole(3), 24);
        Check.dueWord("takeBack of a banned one with 24 bans", x.takeBack(), "ma");
        Check.due("bans still", x.whole(3), 24);
        Check.badState(x, "takeBack of the other one", x::takeBack);
    }

    private static void allow() {
        Check.sentence("Returns 1 if it was there, otherwise 0.");
        StuckKeys x = bookOf("the", 5, "tea", 1);
        c(x, "teh");
        x.takeBack();
        long teh = Check.word("teh");
        long the = Check.word("the");
        Check.due("allow the other way round", x.allow(the, teh), 0);
        Check.due("allow", x.allow(teh, the), 1);
        Check.due("allow again", x.allow(teh, the), 0);
        Check.sentence("Removes a ban.");
        Check.dueWord("corrected again", c(x, "teh"), "the");
        Check.sentence("Throws `IllegalArgumentException` if a word is none");
        for (long bad : Check.noWords()) {
            Check.badArgument(x, "allow(" + bad + ", the)", () -> x.allow(bad, the));
            Check.badArgument(x, "allow(teh, " + bad + ")", () -> x.allow(teh, bad));
        }
        Check.sentence("Removes a ban. Undoable.");
        Check.due("undo of the correction", x.undo(), 3);
        Check.due("undo of an allow that changed nothing", x.undo(), 2);
        Check.due("bans", x.whole(3), 0);
        Check.due("undo of the allow", x.undo(), 1);
        Check.due("bans", x.whole(3), 1);
        Check.due("undo of the first allow", x.undo(), 0);
        Check.due("bans", x.whole(3), 1);
    }
}
