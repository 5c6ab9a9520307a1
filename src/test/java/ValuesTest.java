/** Promises 11 to 17: the values. */
public final class ValuesTest {
    private static final String[] ROWS = {"qwertyuiop", "asdfghjkl", "zxcvbnm"};

    public static void main(String[] args) {
        word();
        listed();
        pair();
        logged();
        key();
        whole();
        distancesOfChanges();
        distancesOfOtherCosts();
        distance();
        Check.end("ValuesTest");
    }

    private static void word() {
        Check.sentence("Returns a value of any word. - `word`: a word - `what`: 0 its count in the book (0 if it is"
                + " not there), 1 1 if it is a name or 0 if not, 2 its number of times as a strange word (0 if it is"
                + " none), 3 its letters, 4 its place in the order of the book, from 0 (NONE if it is not there), 5"
                + " the pairs with it as typed word, 6 the bans with it as typed word Returns that value.");
        StuckKeys x = new StuckKeys();
        long the = Check.word("the");
        long teh = Check.word("teh");
        x.addWord(the, 5);
        x.addWord(Check.word("an"), 7);
        x.addName(the);
        x.correct(teh);
        x.correct(Check.word("xyz"));
        x.correct(Check.word("xyz"));
        Check.due("count", x.word(the, 0), 5);
        Check.due("count of none", x.word(teh, 0), 0);
        Check.due("name", x.word(the, 1), 1);
        Check.due("no name", x.word(Check.word("an"), 1), 0);
        Check.due("strange", x.word(Check.word("xyz"), 2), 2);
        Check.due("not strange", x.word(the, 2), 0);
        Check.due("letters", x.word(the, 3), 3);
        Check.due("one letter", x.word(1, 3), 1);
        Check.due("eight letters", x.word(Check.word("abcdefgh"), 3), 8);
        Check.due("place", x.word(the, 4), 1);
        Check.due("no place", x.word(teh, 4), -1);
        Check.due("pairs", x.word(teh, 5), 1);
        Check.due("pairs with it as typed word", x.word(the, 5), 0);
        Check.due("bans", x.word(teh, 6), 0);
        x.takeBack();
        Check.due("bans then", x.word(teh, 6), 1);
        Check.due("bans with it as typed word", x.word(the, 6), 0);
        Check.sentence("Throws `IllegalArgumentException` if a word is none, or what is out of range");
        Check.badArgument(x, "word(the, -1)", () -> x.word(the, -1));
        Check.badArgument(x, "word(the, 7)", () -> x.word(the, 7));
        for (long bad : Check.noWords()) {
            Check.badArgument(x, "word(" + bad + ", 0)", () -> x.word(bad, 0));
        }
    }

    private static void listed() {
        StuckKeys x = new StuckKeys();
        for (String word : new String[] {"b", "abc", "ab", "zzzzzzzz", "a", "aaaaaaaa", "ba"}) {
            x.addWord(Check.word(word), 1);
        }
        for (String name : new String[] {"zz", "z", "y", "zzz"}) {
            x.addName(Check.word(name));
        }
        String[] words = {"a", "aaaaaaaa", "ab", "abc", "b", "ba", "zzzzzzzz", null};
        String[] names = {"y", "z", "zz", "zzz", null};
        Check.sentence("Returns a word of the book, or a name, in order. - `names`: whether names are meant -"
                + " `index`: 0 for the first one, and so on");
        for (int i = 0; i < words.length; i++) {
            Check.dueWord("listed(false, " + i + ")", x.listed(false, i), words[i]);
        }
        Check.sentence("`names`: whether names are meant");
        for (int i = 0; i < names.length; i++) {
            Check.dueWord("listed(true, " + i + ")", x.listed(true, i), names[i]);
        }
        Check.sentence("Returns the word; NONE if there are not so many.");
        Check.due("far behind", x.listed(false, Integer.MAX_VALUE), -1);
        Check.sentence("Throws `IllegalArgumentException` if index is negative");
        Check.badArgument(x, "listed(false, -1)", () -> x.listed(false, -1));
        Check.badArgument(x, "listed(true, MIN)", () -> x.listed(true, Integer.MIN_VALUE));
    }

    /** Four corrections, of which the latest is undone. */
    private static StuckKeys corrected() {
        StuckKeys x = Check.book("the", 5, "an", 5);
        Check.correctAll(x, "teh", "am", "teh", "thr");
        x.takeBack();
        return x;
    }

    private static void pair() {
        StuckKeys x = corrected();
        rowOfPair(x, 0, "teh", "the", 2);
        rowOfPair(x, 1, "am", "an", 1);
        Check.sentence("Returns that value; NONE if there are not so many.");
        for (int i = 0; i <= 2; i++) {
            int what = i;
            Check.due("pair(2, " + what + ")", x.pair(2, what), -1);
            Check.due("pair(MAX, " + what + ")", x.pair(Integer.MAX_VALUE, what), -1);
        }
        Check.sentence("Throws `IllegalArgumentException` if index is negative, or what is out of range");
        for (int i = 0; i <= 2; i++) {
            int what = i;
            Check.badArgument(x, "pair(-1, " + what + ")", () -> x.pair(-1, what));
            Check.badArgument(x, "pair(MIN, " + what + ")", () -> x.pair(Integer.MIN_VALUE, what));
        }
        for (int what : new int[] {-1, 3}) {
            Check.badArgument(x, "pair(0, " + what + ")", () -> x.pair(0, what));
            Check.badArgument(x, "pair(9, " + what + ")", () -> x.pair(9, what));
        }
    }

    private static void rowOfPair(StuckKeys x, int index, String typed, String word, int times) {
        Check.sentence("Returns a value of a learned pair. - `index`: 0 for the one that was learned first, and so on"
                + " - `what`: 0 typed word, 1 other word, 2 times");
        Check.dueWord("pair(" + index + ", 0)", x.pair(index, 0), typed);
        Check.dueWord("pair(" + index + ", 1)", x.pair(index, 1), word);
        Check.due("pair(" + index + ", 2)", x.pair(index, 2), times);
    }

    private static void logged() {
        StuckKeys x = corrected();
        rowOfLog(x, 0, "thr", "the", 1);
        rowOfLog(x, 1, "teh", "the", 0);
        rowOfLog(x, 2, "am", "an", 0);
        rowOfLog(x, 3, "teh", "the", 0);
        Check.sentence("Returns that value; NONE if there are not so many.");
        for (int i = 0; i <= 2; i++) {
            int what = i;
            Check.due("logged(4, " + what + ")", x.logged(4, what), -1);
            Check.due("logged(MAX, " + what + ")", x.logged(Integer.MAX_VALUE, what), -1);
        }
        Check.sentence("Throws `IllegalArgumentException` if index is negative, or what is out of range");
        for (int i = 0; i <= 2; i++) {
            int what = i;
            Check.badArgument(x, "logged(-1, " + what + ")", () -> x.logged(-1, what));
            Check.badArgument(x, "logged(MIN, " + what + ")", () -> x.logged(Integer.MIN_VALUE, what));
        }
        for (int what : new int[] {-1, 3}) {
            Check.badArgument(x, "logged(0, " + what + ")", () -> x.logged(0, what));
            Check.badArgument(x, "logged(9, " + what + ")", () -> x.logged(9, what));
        }
    }

    private static void rowOfLog(StuckKeys x, int index, String typed, String word, int undone) {
        Check.sentence("Returns a value of a correction of the log. - `index`: 0 for the latest one, and so on -"
                + " `what`: 0 typed word, 1 other word, 2 1 if it is undone or 0 if not");
        Check.dueWord("logged(" + index + ", 0)", x.logged(index, 0), typed);
        Check.dueWord("logged(" + index + ", 1)", x.logged(index, 1), word);
        Check.due("logged(" + index + ", 2)", x.logged(index, 2), undone);
    }

    private static void key() {
        Check.sentence("Returns a value of a key. - `letter`: 0 for a, to 25 for z - `what`: 0 row, 1 column, 2 0 for"
                + " the left hand or 1 for the right one, 3 how it sticks, 4 the keys that are beside it Returns that"
                + " value.");
        StuckKeys x = new StuckKeys();
        x.setStick(2, 1);
        int[] neighbors = {
            4, 4, 4, 6, 4, 6, 6, 6, 4, 6, 5, 3, 3, 4, 4, 2, 2, 4, 6, 4, 4, 4, 4, 4, 4, 3,
        };
        for (int row = 0; row < ROWS.length; row++) {
            for (int column = 0; column < ROWS[row].length(); column++) {
                int letter = ROWS[row].charAt(column) - 'a';
                Check.due("row of " + letter, x.key(letter, 0), row);
                Check.due("column of " + letter, x.key(letter, 1), column);
                Check.due("hand of " + letter, x.key(letter, 2), column <= 4 ? 0 : 1);
                Check.due("stick of " + letter, x.key(letter, 3), letter == 2 ? 1 : 0);
                Check.due("neighbors of " + letter, x.key(letter, 4), neighbors[letter]);
            }
        }
        Check.sentence("Throws `IllegalArgumentException` if letter or what is out of range");
        for (int bad : new int[] {-1, 26, Integer.MAX_VALUE, Integer.MIN_VALUE}) {
            Check.badArgument(x, "key(" + bad + ", 0)", () -> x.key(bad, 0));
        }
        Check.badArgument(x, "key(0, -1)", () -> x.key(0, -1));
        Check.badArgument(x, "key(0, 5)", () -> x.key(0, 5));
    }

    private static void whole() {
        Check.sentence("Returns a value of the whole. - `what`: 0 words, 1 names, 2 pairs, 3 bans, 4 strange words, 5"
                + " corrections in the log, 6 of these those that are undone, 7 to 9 the settings 0 to 2, 10 sum of"
                + " the counts, 11 length of the command text Returns that value.");
        StuckKeys x = new StuckKeys();
        x.addWord(Check.word("the"), 5);
        x.addWord(Check.word("an"), 999);
        x.addName(1);
        x.addName(2);
        x.addName(3);
        x.correct(Check.word("teh"));
        x.correct(Check.word("thr"));
        x.correct(Check.word("am"));
        x.correct(Check.word("ab"));
        x.takeBack();
        x.correct(Check.word("xxyyzz"));
        x.correct(Check.word("zzyyxx"));
        x.set(0, 5);
        x.set(1, 6);
        x.set(2, 4);
        x.type(' ');
        x.type(127);
        int[] due = {2, 3, 3, 1, 3, 4, 1, 5, 6, 4, 1004, 2};
        for (int what = 0; what < due.length; what++) {
            Check.due("whole(" + what + ")", x.whole(what), due[what]);
        }
        Check.sentence("Throws `IllegalArgumentException` if what is out of range");
        Check.badArgument(x, "whole(-1)", () -> x.whole(-1));
        Check.badArgument(x, "whole(12)", () -> x.whole(12));
    }

    /** Of every two letters the distance tells whether their keys are beside each other. */
    private static void distancesOfChanges() {
        Check.sentence("where the column of the key in the upper row (the lower number) is that of the other one, or"
                + " that plus 1.");
        String[] beside = {
            "qwsz", "vghn", "xdfv", "serfcx", "wsdr", "drtgvc", "ftyhbv", "gyujnb", "ujko", "huikmn",
            "jiolm", "kop", "njk", "bhjm", "iklp", "ol", "wa", "edft", "awedxz", "rfgy",
            "yhji", "cfgb", "qase", "zsdc", "tghu", "asx",
        };
        for (int a = 0; a < 26; a++) {
            StuckKeys x = new StuckKeys();
            for (int b = 0; b < 26; b++) {
                boolean near = beside[a].indexOf('a' + b) >= 0;
                Check.due("distance " + a + " to " + b, x.distance(a + 1, b + 1), a == b ? 0 : near ? 2 : 4);
            }
        }
    }

    private static void distancesOfOtherCosts() {
        Check.sentence("Returns a distance. - `typed`: a word - `word`: a word Returns the distance from the typed"
                + " word to the other one.");
        StuckKeys x = new StuckKeys();
        far(x, "ab", "a", 3);
        far(x, "a", "ab", 3);
        far(x, "aa", "a", 3);
        far(x, "al", "la", 1);
        far(x, "as", "sa", 3);
        far(x, "lk", "kl", 3);
        far(x, "bn", "nb", 1);
        far(x, "gh", "hg", 1);
        far(x, "alx", "lxa", 6);
        x.setStick(0, 1);
        far(x, "b", "ab", 1);
        far(x, "b", "aab", 2);
        far(x, "ab", "b", 3);
        far(x, "aab", "ab", 3);
        x.setStick(0, 2);
        far(x, "aab", "ab", 1);
        far(x, "aaab", "ab", 2);
        far(x, "aaab", "b", 5);
        far(x, "ab", "b", 3);
        far(x, "ab", "aab", 3);
        far(x, "aba", "ab", 3);
        x.setStick('t' - 'a', 2);
        far(x, "tta", "at", 6);
        far(x, "att", "ta", 4);
    }

    private static void far(StuckKeys x, String typed, String word, int due) {
        Check.due(typed + " to " + word, x.distance(Check.word(typed), Check.word(word)), due);
    }

    private static void distance() {
        Check.sentence("The distance from a typed word to another one is the least sum of costs");
        StuckKeys x = new StuckKeys();
        far(x, "aaaaaaaa", "pppppppp", 32);
        far(x, "abcdefgh", "abcdefgh", 0);
        far(x, "zzzzzzzz", "a", 23);
        far(x, "a", "zzzzzzzz", 23);
        far(x, "abcd", "badc", 6);
        far(x, "lettre", "letter", 3);
        Check.sentence("Throws `IllegalArgumentException` if a word is none");
        for (long bad : Check.noWords()) {
            Check.badArgument(x, "distance(" + bad + ", a)", () -> x.distance(bad, 1));
            Check.badArgument(x, "distance(a, " + bad + ")", () -> x.distance(1, bad));
        }
    }
}
