/** The section WORDS, for every call that takes a word. */
public final class WordsEdgesTest {
    private interface Answer {
        long of(StuckKeys x, long word);
    }

    /** A call that takes a word, and what it answers on a new object. */
    private record WordCall(String name, Answer got, Answer due) {
    }

    private static final long OTHER = Check.word("m");

    private static final WordCall[] CALLS = {
        new WordCall("addWord(%d, 1)", (x, w) -> x.addWord(w, 1), (x, w) -> 0),
        new WordCall("dropWord(%d)", (x, w) -> x.dropWord(w), (x, w) -> 0),
        new WordCall("addName(%d)", (x, w) -> x.addName(w), (x, w) -> 1),
        new WordCall("dropName(%d)", (x, w) -> x.dropName(w), (x, w) -> 0),
        new WordCall("correct(%d)", (x, w) -> x.correct(w), (x, w) -> w),
        new WordCall("allow(%d, m)", (x, w) -> x.allow(w, OTHER), (x, w) -> 0),
        new WordCall("allow(m, %d)", (x, w) -> x.allow(OTHER, w), (x, w) -> 0),
        new WordCall("word(%d, 3)", (x, w) -> x.word(w, 3), (x, w) -> Check.letters(w).length()),
        new WordCall("distance(%d, m)", (x, w) -> Math.min(x.distance(w, OTHER), 1), (x, w) -> 1),
        new WordCall("distance(m, %d)", (x, w) -> Math.min(x.distance(OTHER, w), 1), (x, w) -> 1),
        new WordCall("caseOf(%d)", (x, w) -> x.caseOf(w), (x, w) -> 4),
        new WordCall("suggestion(%d, 0)", (x, w) -> x.suggestion(w, 0), (x, w) -> StuckKeys.NONE),
        new WordCall("reason(%d, m)", (x, w) -> x.reason(w, OTHER), (x, w) -> 1),
        new WordCall("reason(m, %d)", (x, w) -> x.reason(OTHER, w), (x, w) -> 1),
        new WordCall("risk(%d)", (x, w) -> x.risk(w), (x, w) -> 0),
        new WordCall("bestDropping(%d, m)", (x, w) -> Math.min(x.bestDropping(w, OTHER), 1), (x, w) -> 1),
        new WordCall("bestDropping(m, %d)", (x, w) -> Math.min(x.bestDropping(OTHER, w), 1), (x, w) -> 1),
    };

    public static void main(String[] args) {
        wordsAreTaken();
        everyLetterAtEveryPlace();
        noLetters();
        signsThatAreNoLetters();
        nineLetters();
        bitsAboveTheFirstLetter();
        negativeNumbers();
        order();
        Check.end("WordsEdgesTest");
    }

    private static void wordsAreTaken() {
        Check.sentence("A word has 1 to 8 letters a to z");
        for (WordCall call : CALLS) {
            for (String word : new String[] {"a", "z", "ab", "zy", "yzyzyzy", "aaaaaaaa", "zzzzzzzz"}) {
                StuckKeys x = new StuckKeys();
                long number = Check.word(word);
                Check.due(call.name.formatted(number), call.got.of(x, number), call.due.of(x, number));
            }
        }
    }

    private static void everyLetterAtEveryPlace() {
        Check.sentence("As a number it is told by five bits for each letter (a is 1, z is 26), the last letter in the"
                + " lowest ones");
        for (int length = 1; length <= 8; length++) {
            StuckKeys x = new StuckKeys();
            for (int place = 0; place < length; place++) {
                for (long letter = 1; letter <= 26; letter++) {
                    long number = Check.word("mmmmmmmm".substring(0, length)) & ~(31L << 5 * place);
                    number |= letter << 5 * place;
                    Check.due("word(" + number + ", 3)", x.word(number, 3), length);
                }
            }
        }
        StuckKeys x = new StuckKeys();
        Check.due("stick of the first letter", Check.run(x, "stick az 1;"), 1);
        Check.due("which has the highest bits", x.key(0, 3), 1);
        Check.due("not of the last one", x.key(25, 3), 0);
        Check.due("type of a word of a text", Check.run(x, "type abcdefgh;"), 1);
        Check.due("is the number", x.word(((((((1L * 32 + 2) * 32 + 3) * 32 + 4) * 32 + 5) * 32 + 6) * 32 + 7)
                * 32 + 8, 2), 1);
    }

    private static void noLetters() {
        Check.sentence("A word has 1 to 8 letters");
        refused(0);
    }

    private static void signsThatAreNoLetters() {
        Check.sentence("a is 1, z is 26");
        for (int length = 1; length <= 8; length++) {
            for (int place = 0; place < length; place++) {
                long others = Check.word("mmmmmmmm".substring(0, length)) & ~(31L << 5 * place);
                for (long sign = 27; sign <= 31; sign++) {
                    refused(others | sign << 5 * place);
                }
                if (place < length - 1) {
                    refused(others);
                }
            }
        }
    }

    private static void nineLetters() {
        Check.sentence("A word has 1 to 8 letters");
        refused(Check.word("aaaaaaaaa"));
        refused(Check.word("zzzzzzzzz"));
        refused(Check.word("abcdefghijkl"));
        refused(Long.MAX_VALUE);
    }

    private static void bitsAboveTheFirstLetter() {
        Check.sentence("and nothing above the first one");
        for (int bit = 40; bit < 64; bit++) {
            refused(Check.word("a") | 1L << bit);
            refused(Check.word("zzzzzzzz") | 1L << bit);
            refused(1L << bit);
        }
    }

    private static void negativeNumbers() {
        Check.sentence("Where a word is an argument, IllegalArgumentException is thrown \"if a word is none\": if a"
                + " number is not that of a word.");
        refused(-1);
        refused(-26);
        refused(-Check.word("aaaaaaaa"));
        refused(Long.MIN_VALUE);
        refused(Long.MIN_VALUE + 1);
    }

    private static void refused(long number) {
        for (WordCall call : CALLS) {
            StuckKeys x = new StuckKeys();
            Check.badArgument(x, call.name.formatted(number), () -> call.got.of(x, number));
        }
    }

    private static void order() {
        Check.sentence("Words are in order like in a dictionary (a word that is the beginning of another one comes"
                + " first)");
        String[] sorted = {
            "a", "aa", "aaaaaaaa", "aaaaaaab", "aaaaaaz", "ab", "az", "b", "ba", "bzzzzzzz", "ca", "m", "y",
            "yzzzzzzz", "z", "za", "zz", "zzzzzzz", "zzzzzzzy", "zzzzzzzz",
        };
        for (int step : new int[] {1, 19, 7, 3}) {
            listedInOrder(sorted, step, false, 20);
            listedInOrder(sorted, step, true, 10);
        }
    }

    /** Adds the words in an order that the step makes, which has no divisor with their number. */
    private static void listedInOrder(String[] sorted, int step, boolean names, int room) {
        StuckKeys x = new StuckKeys();
        String[] due = new String[room];
        int every = sorted.length / room;
        for (int i = 0; i < room; i++) {
            due[i] = sorted[i * every];
        }
        for (int i = 0; i < room; i++) {
            long word = Check.word(due[i * step % room]);
            Check.due("added", names ? x.addName(word) : x.addWord(word, 1), names ? 1 : 0);
        }
        for (int i = 0; i < room; i++) {
            Check.dueWord("listed(" + names + ", " + i + ")", x.listed(names, i), due[i]);
            Check.due("word(" + due[i] + ", 4)", x.word(Check.word(due[i]), 4), names ? StuckKeys.NONE : i);
        }
        Check.due("listed behind the last", x.listed(names, room), StuckKeys.NONE);
    }
}
