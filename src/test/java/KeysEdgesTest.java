/** The sections KEYS and DISTANCES, with promises 6, 15, 17 and 23. */
public final class KeysEdgesTest {
    private static final String[] ROWS = {"qwertyuiop", "asdfghjkl", "zxcvbnm"};
    /** The keys beside each key, read from the document by hand. */
    private static final String[] BESIDE = {
        "qwsz", "vghn", "xdfv", "serfcx", "wsdr", "drtgvc", "ftyhbv", "gyujnb", "ujko", "huikmn",
        "jiolm", "kop", "njk", "bhjm", "iklp", "ol", "wa", "edft", "awedxz", "rfgy",
        "yhji", "cfgb", "qase", "zsdc", "tghu", "asx",
    };

    public static void main(String[] args) {
        rowsAndColumns();
        hands();
        besideEachOther();
        ways();
        keyRanges();
        lettersThatStay();
        lettersThatBecomeOthers();
        lettersThatGo();
        lettersThatCome();
        lettersInTheOtherOrder();
        eachLetterOnce();
        leastAndGreatest();
        bestDropping();
        Check.end("KeysEdgesTest");
    }

    private static void rowsAndColumns() {
        Check.sentence("The keys lie in three rows, row 0 qwertyuiop, row 1 asdfghjkl, row 2 zxcvbnm, each with the"
                + " columns 0, 1, and so on.");
        StuckKeys x = new StuckKeys();
        for (int row = 0; row < 3; row++) {
            for (int column = 0; column < ROWS[row].length(); column++) {
                int letter = ROWS[row].charAt(column) - 'a';
                Check.due("key(" + letter + ", 0)", x.key(letter, 0), row);
                Check.due("key(" + letter + ", 1)", x.key(letter, 1), column);
            }
        }
    }

    private static void hands() {
        Check.sentence("The columns 0 to 4 are for the left hand, the others for the right one");
        StuckKeys x = new StuckKeys();
        for (char letter : "qwertasdfgzxcvb".toCharArray()) {
            Check.due("hand of " + letter, x.key(letter - 'a', 2), 0);
        }
        for (char letter : "yuiophjklnm".toCharArray()) {
            Check.due("hand of " + letter, x.key(letter - 'a', 2), 1);
        }
    }

    private static void besideEachOther() {
        Check.sentence("Two keys are beside each other if they are in the same row with columns that differ by 1, or"
                + " in two rows that follow on one another, where the column of the key in the upper row (the lower"
                + " number) is that of the other one, or that plus 1.");
        for (int a = 0; a < 26; a++) {
            StuckKeys x = new StuckKeys();
            Check.due("key(" + a + ", 4)", x.key(a, 4), BESIDE[a].length());
            for (int b = 0; b < 26; b++) {
                int cost = a == b ? 0 : BESIDE[a].indexOf('a' + b) >= 0 ? 2 : 4;
                Check.due("distance of " + a + " to " + b, x.distance(a + 1, b + 1), cost);
            }
        }
    }

    private static void ways() {
        Check.sentence("Each key sticks in a way: 0 not at all (at first), 1 it drops letters, 2 it doubles them");
        StuckKeys x = new StuckKeys();
        for (int letter = 0; letter < 26; letter++) {
            Check.due("at first", x.key(letter, 3), 0);
            Check.due("setStick(" + letter + ", 1)", x.setStick(letter, 1), 0);
            Check.due("setStick(" + letter + ", 2)", x.setStick(letter, 2), 1);
            Check.due("key(" + letter + ", 3)", x.key(letter, 3), 2);
            Check.due("setStick(" + letter + ", 0)", x.setStick(letter, 0), 2);
            Check.due("setStick(" + letter + ", 0) again", x.setStick(letter, 0), 0);
            Check.due("setStick(" + letter + ", " + letter % 3 + ")", x.setStick(letter, letter % 3), 0);
        }
        for (int letter = 0; letter < 26; letter++) {
            Check.due("each key for itself: " + letter, x.key(letter, 3), letter % 3);
        }
    }

    private static void keyRanges() {
        Check.sentence("`letter`: 0 for a, to 25 for z");
        StuckKeys x = new StuckKeys();
        for (int letter : new int[] {-1, 26, 100, Integer.MIN_VALUE, Integer.MAX_VALUE}) {
            for (int what = -1; what <= 5; what++) {
                int asked = what;
                Check.badArgument(x, "key(" + letter + ", " + asked + ")", () -> x.key(letter, asked));
            }
            for (int stick = -1; stick <= 3; stick++) {
                int asked = stick;
                Check.badArgument(x, "setStick(" + letter + ", " + asked + ")", () -> x.setStick(letter, asked));
            }
        }
        StuckKeys y = new StuckKeys();
        y.setStick(0, 2);
        for (int letter : new int[] {0, 25}) {
            for (int bad : new int[] {-1, Integer.MIN_VALUE, Integer.MAX_VALUE}) {
                Check.badArgument(y, "key(" + letter + ", " + bad + ")", () -> y.key(letter, bad));
                Check.badArgument(y, "setStick(" + letter + ", " + bad + ")", () -> y.setStick(letter, bad));
            }
            Check.badArgument(y, "key(" + letter + ", 5)", () -> y.key(letter, 5));
            Check.badArgument(y, "setStick(" + letter + ", 3)", () -> y.setStick(letter, 3));
        }
        Check.due("key(0, 0)", y.key(0, 0), 1);
        Check.due("key(25, 4)", y.key(25, 4), 3);
        Check.due("key(0, 3)", y.key(0, 3), 2);
    }

    private static void far(StuckKeys x, String typed, String word, int due) {
        Check.due("distance(" + typed + ", " + word + ")", x.distance(Check.word(typed), Check.word(word)), due);
    }

    private static void stick(StuckKeys x, char letter, int stick) {
        x.setStick(letter - 'a', stick);
    }

    private static void lettersThatStay() {
        Check.sentence("a letter that stays costs 0");
        StuckKeys x = new StuckKeys();
        for (int stick = 0; stick <= 2; stick++) {
            stick(x, 'a', stick);
            far(x, "a", "a", 0);
            far(x, "aaaaaaaa", "aaaaaaaa", 0);
            far(x, "abababab", "abababab", 0);
        }
    }

    private static void lettersThatBecomeOthers() {
        Check.sentence("one that becomes another one 2 if their keys are beside each other, otherwise 4");
        StuckKeys x = new StuckKeys();
        far(x, "abc", "abv", 2);
        far(x, "abc", "abb", 4);
        far(x, "qaz", "wsx", 6);
        far(x, "qz", "zq", 3);
        far(x, "qm", "pz", 8);
        stick(x, 'a', 2);
        stick(x, 'p', 1);
        Check.sentence("is the least sum of costs");
        far(x, "aa", "ap", 2);
        far(x, "oa", "op", 4);
        far(x, "ab", "al", 4);
    }

    private static void lettersThatGo() {
        Check.sentence("a typed letter that goes 1 if its key doubles letters and it is the same as the typed letter"
                + " ahead of it, otherwise 3");
        StuckKeys x = new StuckKeys();
        far(x, "aab", "ab", 3);
        far(x, "a", "aab", 6);
        stick(x, 'a', 1);
        far(x, "aab", "ab", 3);
        stick(x, 'a', 2);
        far(x, "aab", "ab", 1);
        far(x, "aaab", "ab", 2);
        far(x, "baa", "ba", 1);
        far(x, "ab", "b", 3);
        far(x, "ba", "b", 3);
        far(x, "aba", "ab", 3);
        far(x, "abb", "ab", 3);
        far(x, "aabb", "ab", 4);
        far(x, "aab", "b", 4);
        far(x, "aaaaaaaa", "a", 7);
        far(x, "bbaa", "a", 7);
        Check.sentence("it is the same as the typed letter ahead of it");
        stick(x, 't', 2);
        far(x, "att", "ta", 4);
        far(x, "tta", "at", 6);
    }

    private static void lettersThatCome() {
        Check.sentence("a letter that comes 1 if its key drops letters, otherwise 3");
        StuckKeys x = new StuckKeys();
        far(x, "b", "ab", 3);
        stick(x, 'a', 2);
        far(x, "b", "ab", 3);
        far(x, "a", "aa", 3);
        stick(x, 'a', 1);
        far(x, "b", "ab", 1);
        far(x, "b", "ba", 1);
        far(x, "b", "aba", 2);
        far(x, "a", "aaaaaaaa", 7);
        far(x, "a", "ab", 3);
        far(x, "ab", "b", 3);
    }

    private static void lettersInTheOtherOrder() {
        Check.sentence("two neighboring typed letters that come in the other order 1 if their keys are for different"
                + " hands, otherwise 3 (also if they are the same)");
        String left = "qwertasdfgzxcvb";
        for (char a = 'a'; a <= 'z'; a++) {
            StuckKeys x = new StuckKeys();
            for (char b = 'a'; b <= 'z'; b++) {
                boolean different = left.indexOf(a) >= 0 != left.indexOf(b) >= 0;
                far(x, "" + a + b, "" + b + a, a == b ? 0 : different ? 1 : 3);
            }
        }
        StuckKeys x = new StuckKeys();
        far(x, "mab", "mba", 3);
        far(x, "lala", "alal", 2);
        far(x, "abcdefgh", "badcfehg", 10);
        far(x, "azl", "lza", 7);
    }

    private static void eachLetterOnce() {
        Check.sentence("from left to right, each letter being used once");
        StuckKeys x = new StuckKeys();
        far(x, "ca", "abc", 9);
        far(x, "alx", "lxa", 6);
        far(x, "al", "lba", 9);
    }

    private static void leastAndGreatest() {
        Check.sentence("the least sum of costs with which the typed word becomes the other one");
        StuckKeys x = new StuckKeys();
        far(x, "a", "a", 0);
        far(x, "aaaaaaaa", "pppppppp", 32);
        far(x, "q", "pppppppp", 25);
        far(x, "pppppppp", "q", 25);
        far(x, "p", "pppppppp", 21);
        far(x, "pppppppp", "p", 21);
        for (int letter = 0; letter < 26; letter++) {
            x.setStick(letter, 1);
        }
        far(x, "aaaaaaaa", "pppppppp", 32);
        far(x, "q", "pppppppp", 11);
        far(x, "pppppppp", "q", 25);
        for (int letter = 0; letter < 26; letter++) {
            x.setStick(letter, 2);
        }
        far(x, "pppppppp", "q", 11);
        far(x, "q", "pppppppp", 25);
    }

    private static void best(StuckKeys x, String typed, String word, char letter, int distance) {
        Check.due("bestDropping(" + typed + ", " + word + ")",
                x.bestDropping(Check.word(typed), Check.word(word)), 100 * (letter - 'a') + distance);
    }

    private static void bestDropping() {
        Check.sentence("Returns 100 * letter + the distance then, of several the first letter");
        StuckKeys x = new StuckKeys();
        best(x, "z", "z", 'a', 0);
        best(x, "b", "bz", 'z', 1);
        best(x, "b", "bzzzzzzz", 'z', 7);
        best(x, "b", "by", 'y', 1);
        best(x, "b", "bzy", 'y', 4);
        best(x, "b", "bba", 'a', 4);
        best(x, "bz", "b", 'a', 3);
        best(x, "aaaaaaaa", "pppppppp", 'a', 32);
        Check.sentence("if it dropped letters (and all others stuck as they do)");
        stick(x, 'y', 1);
        best(x, "b", "bzy", 'z', 2);
        best(x, "b", "by", 'a', 1);
        stick(x, 'b', 2);
        best(x, "bb", "bz", 'z', 2);
        best(x, "bbb", "b", 'a', 2);
        stick(x, 'a', 2);
        best(x, "aaa", "a", 'b', 2);
        best(x, "aaa", "ab", 'b', 3);
        Check.due("a sticks as it did", x.key(0, 3), 2);
        Check.due("z sticks as it did", x.key(25, 3), 0);
    }
}
