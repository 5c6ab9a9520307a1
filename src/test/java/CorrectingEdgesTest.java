/** The section CORRECTING, with promises 8 and 18, case by case and table by table. */
public final class CorrectingEdgesTest {
    public static void main(String[] args) {
        countsEnd();
        wordOfTheBookComesFirst();
        nameStays();
        trustOfEveryValue();
        otherWordOfAPair();
        pairWithTheGreatestTimes();
        pairsAtTheirMostTimes();
        limitOfEveryValue();
        nearestOfSeveral();
        bannedWithIt();
        patienceOfEveryValue();
        justThePatience();
        fewerThanTenNames();
        timesOfStrangeWordsHaveNoEnd();
        twentyStrangeWords();
        strangeWordAtOnceAName();
        timesOfPairs();
        twentyFourPairs();
        leastPairOfMany();
        twentyCorrections();
        Check.end("CorrectingEdgesTest");
    }

    private static void typed(StuckKeys x, String typed, int applies, String due) {
        Check.due("caseOf(" + typed + ")", x.caseOf(Check.word(typed)), applies);
        Check.dueWord("correct(" + typed + ")", Check.correct(x, typed), due);
    }

    private static void tables(StuckKeys x, int names, int pairs, int strange, int log) {
        Check.due("whole(1), the names,", x.whole(1), names);
        Check.due("whole(2), the pairs,", x.whole(2), pairs);
        Check.due("whole(4), the strange words,", x.whole(4), strange);
        Check.due("whole(5), the corrections,", x.whole(5), log);
    }

    private static void countsEnd() {
        Check.sentence("It is a word of the book: its count increases by 1 (up to 999), and it stays");
        StuckKeys x = Check.book("the", 1, "and", 997);
        for (int count = 2; count <= 4; count++) {
            typed(x, "the", 0, "the");
            Check.due("word(the, 0)", x.word(Check.word("the"), 0), count);
        }
        for (int count : new int[] {998, 999, 999, 999}) {
            typed(x, "and", 0, "and");
            Check.due("word(and, 0)", x.word(Check.word("and"), 0), count);
        }
        Check.due("whole(10)", x.whole(10), 4 + 999);
        tables(x, 0, 0, 0, 0);
    }

    private static void wordOfTheBookComesFirst() {
        Check.sentence("the first of these applies");
        StuckKeys x = Check.book("the", 9);
        Check.correctAll(x, "teh", "teh", "teh");
        x.addName(Check.word("teh"));
        typed(x, "teh", 1, "teh");
        x.addWord(Check.word("teh"), 1);
        typed(x, "teh", 0, "teh");
        Check.due("word(teh, 0)", x.word(Check.word("teh"), 0), 2);
        Check.due("pair(0, 2)", x.pair(0, 2), 3);
        x.dropWord(Check.word("teh"));
        x.dropName(Check.word("teh"));
        x.addWord(Check.word("tehe"), 1);
        typed(x, "teh", 2, "the");
        x.set(1, 9);
        typed(x, "teh", 3, "the");
        x.set(0, 0);
        typed(x, "teh", 4, "teh");
        tables(x, 0, 1, 1, 5);
    }

    private static void nameStays() {
        Check.sentence("It is a name: it stays");
        StuckKeys x = Check.book("the", 9);
        x.set(2, 1);
        x.addName(Check.word("teh"));
        for (int i = 0; i < 3; i++) {
            typed(x, "teh", 1, "teh");
        }
        Check.due("word(the, 0)", x.word(Check.word("the"), 0), 9);
        tables(x, 1, 0, 0, 0);
    }

    private static void trustOfEveryValue() {
        Check.sentence("There are pairs with this typed word, at least as many times as the trust");
        for (int trust = 1; trust <= 9; trust++) {
            StuckKeys x = Check.book("the", 5);
            x.set(1, trust);
            Check.due("caseOf(teh) at first", x.caseOf(Check.word("teh")), 3);
            for (int times = 1; times <= 10; times++) {
                Check.dueWord("correct(teh)", Check.correct(x, "teh"), "the");
                x.set(0, 0);
                Check.due("caseOf(teh) after " + times + " times with trust " + trust,
                        x.caseOf(Check.word("teh")), times >= trust ? 2 : 4);
                Check.due("caseOf(thr), typed never", x.caseOf(Check.word("thr")), 4);
                x.set(0, 4);
            }
        }
    }

    private static void otherWordOfAPair() {
        Check.sentence("and whose other word is a word of the book or a name");
        StuckKeys x = Check.book("the", 5);
        Check.correctAll(x, "teh", "teh");
        x.set(0, 0);
        typed(x, "teh", 2, "the");
        x.addName(Check.word("the"));
        typed(x, "teh", 2, "the");
        x.dropWord(Check.word("the"));
        typed(x, "teh", 2, "the");
        Check.due("pair(0, 2)", x.pair(0, 2), 5);
        Check.due("logged(0, 1)", x.logged(0, 1), Check.word("the"));
        x.dropName(Check.word("the"));
        typed(x, "teh", 4, "teh");
        Check.due("the pair stays", x.pair(0, 2), 5);
        tables(x, 0, 1, 1, 5);
    }

    /** Makes pairs of the typed word ml with these words, each in the book alone while it is learned. */
    private static StuckKeys learned(Object... wordsAndTimes) {
        StuckKeys x = new StuckKeys();
        x.set(0, 12);
        x.set(1, 9);
        for (int i = 0; i < wordsAndTimes.length; i += 2) {
            String word = (String) wordsAndTimes[i];
            x.addWord(Check.word(word), 1);
            for (int times = 0; times < (Integer) wordsAndTimes[i + 1]; times++) {
                Check.dueWord("learning ml", Check.correct(x, "ml"), word);
            }
            x.dropWord(Check.word(word));
        }
        x.set(1, 2);
        return x;
    }

    private static void pairWithTheGreatestTimes() {
        Check.sentence("the one with the greatest number of times, of several of the one that was learned first");
        StuckKeys x = learned("mk", 2, "mz", 4, "mb", 4, "mj", 1);
        for (String word : new String[] {"mk", "mz", "mb", "mj"}) {
            x.addWord(Check.word(word), word.equals("mz") ? 1 : 900);
        }
        typed(x, "ml", 2, "mz");
        Check.due("pair(1, 2)", x.pair(1, 2), 5);
        x.dropWord(Check.word("mz"));
        typed(x, "ml", 2, "mb");
        x.dropWord(Check.word("mb"));
        typed(x, "ml", 2, "mk");
        x.dropWord(Check.word("mk"));
        typed(x, "ml", 3, "mj");
        typed(x, "ml", 2, "mj");
        Check.due("word(ml, 5)", x.word(Check.word("ml"), 5), 4);
    }

    private static void pairsAtTheirMostTimes() {
        Check.sentence("of several of the one that was learned first");
        StuckKeys x = learned("mz", 99, "mb", 101);
        x.addWord(Check.word("mb"), 999);
        x.addWord(Check.word("mz"), 1);
        Check.due("pair(0, 2)", x.pair(0, 2), 99);
        Check.due("pair(1, 2)", x.pair(1, 2), 99);
        x.set(1, 9);
        typed(x, "ml", 2, "mz");
        typed(x, "ml", 2, "mz");
        Check.due("pair(0, 2) then", x.pair(0, 2), 99);
    }

    /** A typed word with just this distance from mmmmmmm: n is beside m, which drops letters. */
    private static String withDistance(int distance) {
        return distance == 1 ? "mmmmmm" : "nnnnnn".substring(0, distance / 2)
                + "mmmmmmm".substring(distance / 2 + distance % 2);
    }

    private static void limitOfEveryValue() {
        Check.sentence("words of the book with a distance from it that is at most the limit");
        for (int limit = 0; limit <= 12; limit++) {
            StuckKeys x = Check.book("mmmmmmm", 1);
            x.setStick('m' - 'a', 1);
            x.set(0, limit);
            for (int far = 1; far <= 13; far++) {
                String typed = withDistance(far);
                boolean near = far <= limit;
                Check.due("distance(" + typed + ", mmmmmmm)",
                        x.distance(Check.word(typed), Check.word("mmmmmmm")), far);
                Check.dueWord("suggestion", x.suggestion(Check.word(typed), 0), near ? "mmmmmmm" : null);
                Check.due("reason", x.reason(Check.word(typed), Check.word("mmmmmmm")), near ? 0 : 3);
                Check.due("risk", x.risk(Check.word(typed)), near ? 1 : 0);
                typed(x, typed, near ? 3 : 4, near ? "mmmmmmm" : typed);
            }
            tables(x, 0, limit, 13 - limit, limit);
            Check.dueWord("suggestion of itself", x.suggestion(Check.word("mmmmmmm"), 0), "mmmmmmm");
            Check.due("reason of itself", x.reason(Check.word("mmmmmmm"), Check.word("mmmmmmm")), 0);
            Check.due("risk of itself", x.risk(Check.word("mmmmmmm")), 0);
        }
    }

    private static void nearestOfSeveral() {
        Check.sentence("it becomes the nearest one, of several that with the greatest count, of several the first one"
                + " in order");
        StuckKeys x = Check.book("aab", 999, "aq", 1, "as", 1, "aw", 1, "az", 1);
        x.set(1, 9);
        typed(x, "aa", 3, "aq");
        x.addWord(Check.word("az"), 2);
        typed(x, "aa", 3, "az");
        x.addWord(Check.word("aw"), 999);
        x.addWord(Check.word("as"), 998);
        typed(x, "aa", 3, "aw");
        x.addWord(Check.word("as"), 999);
        typed(x, "aa", 3, "as");
        x.setStick('p' - 'a', 1);
        x.addWord(Check.word("aap"), 1);
        typed(x, "aa", 3, "aap");
        x.addWord(Check.word("apa"), 1);
        typed(x, "aa", 3, "aap");
        x.addWord(Check.word("paa"), 2);
        typed(x, "aa", 3, "paa");
        Check.due("word(paa, 0) stays", x.word(Check.word("paa"), 0), 2);
    }

    private static void bannedWithIt() {
        Check.sentence("and not banned with it");
        StuckKeys x = Check.book("as", 2, "aq", 1);
        typed(x, "aa", 3, "as");
        x.takeBack();
        typed(x, "aa", 3, "aq");
        typed(x, "ax", 3, "as");
        x.addWord(Check.word("aa"), 1);
        x.dropWord(Check.word("as"));
        typed(x, "as", 3, "aa");
        x.dropWord(Check.word("aa"));
        x.addWord(Check.word("as"), 2);
        x.dropWord(Check.word("aq"));
        typed(x, "aa", 4, "aa");
        Check.due("allow(aa, as)", x.allow(Check.word("aa"), Check.word("as")), 1);
        typed(x, "aa", 3, "as");
    }

    private static void patienceOfEveryValue() {
        Check.sentence("if it is just the patience then, and there are fewer than 10 names, it becomes a name (if it"
                + " is none yet) and is no strange word any more");
        for (int patience = 1; patience <= 5; patience++) {
            StuckKeys x = new StuckKeys();
            x.set(2, patience);
            for (int times = 1; times < patience; times++) {
                typed(x, "zip", 4, "zip");
                Check.due("word(zip, 2)", x.word(Check.word("zip"), 2), times);
                tables(x, 0, 0, 1, 0);
            }
            typed(x, "zip", 4, "zip");
            Check.due("word(zip, 1) at patience " + patience, x.word(Check.word("zip"), 1), 1);
            Check.due("word(zip, 2) at patience " + patience, x.word(Check.word("zip"), 2), 0);
            tables(x, 1, 0, 0, 0);
            typed(x, "zip", 1, "zip");
            x.dropName(Check.word("zip"));
            typed(x, "zip", 4, "zip");
            Check.due("strange anew", x.word(Check.word("zip"), 2), patience == 1 ? 0 : 1);
        }
    }

    private static void justThePatience() {
        Check.sentence("if it is just the patience then");
        StuckKeys x = new StuckKeys();
        x.set(2, 5);
        Check.correctAll(x, "zip", "zip", "zap", "zap", "zap");
        x.set(2, 3);
        Check.correctAll(x, "zap");
        Check.due("word(zap, 2) beyond the patience", x.word(Check.word("zap"), 2), 4);
        Check.correctAll(x, "zip");
        Check.due("word(zip, 1) at the new patience", x.word(Check.word("zip"), 1), 1);
        x.set(2, 5);
        Check.correctAll(x, "zap");
        Check.due("word(zap, 1) at a greater one", x.word(Check.word("zap"), 1), 1);
        tables(x, 2, 0, 0, 0);
        Check.correctAll(x, "zup", "zup");
        x.set(2, 2);
        tables(x, 2, 0, 1, 0);
        Check.correctAll(x, "zup");
        Check.due("a setting makes no name", x.word(Check.word("zup"), 2), 3);
    }

    private static void fewerThanTenNames() {
        Check.sentence("and there are fewer than 10 names");
        StuckKeys x = new StuckKeys();
        for (int i = 1; i <= 9; i++) {
            x.addName(i);
        }
        x.set(2, 2);
        Check.correctAll(x, "zip", "zip");
        Check.due("word(zip, 1) as the tenth", x.word(Check.word("zip"), 1), 1);
        Check.due("word(zip, 2)", x.word(Check.word("zip"), 2), 0);
        tables(x, 10, 0, 0, 0);
        Check.correctAll(x, "zap", "zap");
        Check.due("word(zap, 1) with ten", x.word(Check.word("zap"), 1), 0);
        Check.due("word(zap, 2) with ten", x.word(Check.word("zap"), 2), 2);
        tables(x, 10, 0, 1, 0);
        x.dropName(1);
        typed(x, "zap", 4, "zap");
        Check.due("word(zap, 2) beyond the patience", x.word(Check.word("zap"), 2), 3);
        x.set(2, 4);
        typed(x, "zap", 4, "zap");
        Check.due("word(zap, 1) at the patience, with nine", x.word(Check.word("zap"), 1), 1);
        tables(x, 10, 0, 0, 0);
    }

    private static void timesOfStrangeWordsHaveNoEnd() {
        Check.sentence("its number of times as a strange word increases by 1");
        StuckKeys x = new StuckKeys();
        for (int i = 1; i <= 10; i++) {
            x.addName(i);
        }
        Check.typeText(x, "type z;".repeat(21));
        for (int runs = 1; runs <= 60; runs++) {
            Check.due("runCommands()", x.runCommands(), 21);
            Check.due("word(z, 2)", x.word(26, 2), 21 * runs);
        }
    }

    private static void twentyStrangeWords() {
        Check.sentence("If there are 20 strange words, and it is none, the one that came first is forgotten");
        StuckKeys x = new StuckKeys();
        x.set(2, 5);
        Check.correctAll(x, Check.words('z', 19));
        tables(x, 0, 0, 19, 0);
        Check.correctAll(x, "zt");
        tables(x, 0, 0, 20, 0);
        Check.due("the 20th forgets none", x.word(Check.word("za"), 2), 1);
        Check.correctAll(x, "za", "za", "zt");
        tables(x, 0, 0, 20, 0);
        Check.due("one that is there forgets none", x.word(Check.word("zb"), 2), 1);
        Check.due("word(za, 2)", x.word(Check.word("za"), 2), 3);
        Check.correctAll(x, "zu");
        tables(x, 0, 0, 20, 0);
        Check.due("the first, though it came again", x.word(Check.word("za"), 2), 0);
        Check.due("the second stays", x.word(Check.word("zb"), 2), 1);
        Check.due("the new one", x.word(Check.word("zu"), 2), 1);
        Check.correctAll(x, "za");
        Check.due("the second is the first then", x.word(Check.word("zb"), 2), 0);
        Check.due("one that comes anew", x.word(Check.word("za"), 2), 1);
        Check.correctAll(x, Check.words('y', 18));
        Check.due("it came last but 18", x.word(Check.word("za"), 2), 1);
        Check.due("before it", x.word(Check.word("zu"), 2), 1);
        Check.due("before that", x.word(Check.word("zt"), 2), 0);
    }

    private static void strangeWordAtOnceAName() {
        Check.sentence("the one that came first is forgotten, also if this one becomes a name then");
        StuckKeys x = new StuckKeys();
        x.set(2, 5);
        Check.correctAll(x, Check.words('z', 20));
        x.set(2, 1);
        Check.correctAll(x, "m");
        Check.due("word(m, 1)", x.word(Check.word("m"), 1), 1);
        Check.due("word(m, 2)", x.word(Check.word("m"), 2), 0);
        Check.due("word(za, 2)", x.word(Check.word("za"), 2), 0);
        tables(x, 1, 0, 19, 0);
        Check.correctAll(x, "k");
        Check.due("word(zb, 2) with 19", x.word(Check.word("zb"), 2), 1);
        tables(x, 2, 0, 19, 0);
        x.set(2, 2);
        Check.correctAll(x, "zc");
        Check.due("word(zc, 1), strange before", x.word(Check.word("zc"), 1), 1);
        tables(x, 3, 0, 18, 0);
        for (int i = 1; i <= 7; i++) {
            x.addName(i);
        }
        x.set(2, 1);
        Check.correctAll(x, "xa", "xb", "xc");
        tables(x, 10, 0, 20, 0);
        Check.due("with ten names it is forgotten too", x.word(Check.word("zb"), 2), 0);
        Check.due("the next one stays", x.word(Check.word("zd"), 2), 1);
        Check.due("word(xc, 2)", x.word(Check.word("xc"), 2), 1);
    }

    private static void timesOfPairs() {
        Check.sentence("the times of this pair increase by 1 (up to 99); a new pair has 1 time");
        StuckKeys x = Check.book("the", 5);
        for (int times = 1; times <= 101; times++) {
            typed(x, "teh", times > 2 ? 2 : 3, "the");
            Check.due("pair(0, 2)", x.pair(0, 2), Math.min(times, 99));
        }
        tables(x, 0, 1, 0, 20);
        x.set(1, 9);
        Check.correctAll(x, "thr");
        Check.due("pair(1, 2)", x.pair(1, 2), 1);
        Check.due("word(the, 0) stays", x.word(Check.word("the"), 0), 5);
    }

    private static StuckKeys nearM(String... typed) {
        StuckKeys x = Check.book("m", 1);
        x.set(0, 12);
        x.set(1, 9);
        Check.correctAll(x, typed);
        return x;
    }

    private static void twentyFourPairs() {
        Check.sentence("if there are 24, that with the least number of times, of several the one that was learned"
                + " first, is forgotten");
        StuckKeys x = nearM(Check.words('m', 23));
        Check.due("whole(2)", x.whole(2), 23);
        Check.correctAll(x, "mx");
        Check.due("whole(2)", x.whole(2), 24);
        Check.dueWord("pair(0, 0)", x.pair(0, 0), "ma");
        Check.dueWord("pair(23, 0)", x.pair(23, 0), "mx");
        Check.due("pair(24, 0)", x.pair(24, 0), -1);
        Check.correctAll(x, "mx", "ma");
        Check.due("whole(2) with times of one that is there", x.whole(2), 24);
        Check.dueWord("pair(1, 0)", x.pair(1, 0), "mb");
        Check.correctAll(x, "my");
        Check.due("whole(2)", x.whole(2), 24);
        Check.dueWord("pair(0, 0) with two times", x.pair(0, 0), "ma");
        Check.dueWord("pair(1, 0), the next one", x.pair(1, 0), "mc");
        Check.dueWord("pair(22, 0)", x.pair(22, 0), "mx");
        Check.dueWord("pair(23, 0), the new one", x.pair(23, 0), "my");
        Check.due("pair(23, 2)", x.pair(23, 2), 1);
        x.takeBack();
        Check.due("whole(2) after takeBack", x.whole(2), 23);
        Check.correctAll(x, "mz");
        Check.dueWord("pair(1, 0) with 23 before", x.pair(1, 0), "mc");
        Check.dueWord("pair(23, 0)", x.pair(23, 0), "mz");
        StuckKeys y = nearM(Check.words('m', 25));
        Check.dueWord("pair(0, 0), the very first being forgotten", y.pair(0, 0), "mb");
        Check.dueWord("pair(23, 0)", y.pair(23, 0), "my");
    }

    private static void leastPairOfMany() {
        Check.sentence("that with the least number of times, of several the one that was learned first");
        String[] typed = Check.words('m', 24);
        StuckKeys x = nearM(typed);
        for (int times = 0; times < 3; times++) {
            for (int i = 0; i < 24; i++) {
                if (times == 0 || i != 7 && i != 15 && (times == 1 || i != 11)) {
                    Check.correctAll(x, typed[i]);
                }
            }
        }
        Check.due("pair(0, 2)", x.pair(0, 2), 4);
        Check.due("pair(7, 2)", x.pair(7, 2), 2);
        Check.due("pair(11, 2)", x.pair(11, 2), 3);
        Check.due("pair(15, 2)", x.pair(15, 2), 2);
        Check.correctAll(x, "my");
        Check.dueWord("pair(6, 0)", x.pair(6, 0), "mg");
        Check.dueWord("pair(7, 0)", x.pair(7, 0), "mi");
        Check.dueWord("pair(14, 0)", x.pair(14, 0), "mp");
        Check.dueWord("pair(23, 0), though it has the least then", x.pair(23, 0), "my");
        Check.correctAll(x, "mz");
        Check.dueWord("pair(22, 0), which goes next", x.pair(22, 0), "mx");
        Check.dueWord("pair(23, 0)", x.pair(23, 0), "mz");
        Check.correctAll(x, "mz", "mz", "mz", "my");
        Check.dueWord("pair(14, 0), the least learned later", x.pair(14, 0), "mq");
        Check.dueWord("pair(23, 0)", x.pair(23, 0), "my");
    }

    private static void twentyCorrections() {
        Check.sentence("a log of the latest 20 corrections");
        StuckKeys x = nearM(Check.words('m', 19));
        tables(x, 0, 19, 0, 19);
        Check.dueWord("logged(18, 0)", x.logged(18, 0), "ma");
        Check.correctAll(x, "mt");
        tables(x, 0, 20, 0, 20);
        Check.dueWord("logged(19, 0)", x.logged(19, 0), "ma");
        Check.dueWord("takeBack()", x.takeBack(), "mt");
        Check.correctAll(x, "mu");
        tables(x, 0, 20, 1, 20);
        Check.due("whole(6)", x.whole(6), 1);
        Check.dueWord("logged(0, 0), the latest", x.logged(0, 0), "mu");
        Check.due("logged(0, 2)", x.logged(0, 2), 0);
        Check.due("logged(1, 2)", x.logged(1, 2), 1);
        Check.dueWord("logged(19, 0), the oldest", x.logged(19, 0), "mb");
        Check.due("logged(20, 0)", x.logged(20, 0), -1);
        Check.dueWord("pair(0, 0), no longer in the log", x.pair(0, 0), "ma");
        for (int i = 0; i < 9; i++) {
            Check.correctAll(x, "ma");
        }
        tables(x, 0, 20, 1, 20);
        Check.correctAll(x, "ma");
        Check.due("logged(0, 0) by a pair", x.logged(0, 0), Check.word("ma"));
        Check.due("whole(5)", x.whole(5), 20);
        Check.correctAll(x, Check.words('m', 10));
        Check.due("whole(6), the undone one being gone", x.whole(6), 0);
    }
}
