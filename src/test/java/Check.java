/** What the tests share: words as numbers, and answers held against those that are due. */
final class Check {
    interface Call {
        long answer();
    }

    private static int wrong = 0;
    private static String sentence = "";

    private Check() {
    }

    /** The words of the document that the next answers are held against; they are told with a wrong one. */
    static void sentence(String words) {
        sentence = "\"" + words + "\": ";
    }

    static long word(String letters) {
        long number = 0;
        for (int i = 0; i < letters.length(); i++) {
            number = number * 32 + (letters.charAt(i) - 'a' + 1);
        }
        return number;
    }

    static String letters(long number) {
        StringBuilder letters = new StringBuilder();
        for (long rest = number; rest > 0; rest /= 32) {
            letters.insert(0, (char) ('a' + rest % 32 - 1));
        }
        return letters.toString();
    }

    /** An object whose book has these words with their counts: book("the", 5, "ten", 3). */
    static StuckKeys book(Object... wordsAndCounts) {
        StuckKeys x = new StuckKeys();
        for (int i = 0; i < wordsAndCounts.length; i += 2) {
            x.addWord(word((String) wordsAndCounts[i]), (Integer) wordsAndCounts[i + 1]);
        }
        return x;
    }

    static long correct(StuckKeys x, String typed) {
        return x.correct(word(typed));
    }

    static void correctAll(StuckKeys x, String... typed) {
        for (String word : typed) {
            correct(x, word);
        }
    }

    /** So many words of two letters: this first letter, then a, b and so on. */
    static String[] words(char first, int count) {
        String[] words = new String[count];
        for (int i = 0; i < count; i++) {
            words[i] = "" + first + (char) ('a' + i);
        }
        return words;
    }

    static void due(String call, long got, long want) {
        if (got != want) {
            wrong++;
            System.out.println(sentence + call + " answered " + got + ", due is " + want);
        }
    }

    static void dueWord(String call, long got, String want) {
        due(call, got, want == null ? StuckKeys.NONE : word(want));
    }

    /** The call must throw an IllegalArgumentException and change nothing. */
    static void badArgument(StuckKeys x, String call, Call tried) {
        refused(x, call, tried, IllegalArgumentException.class);
    }

    /** The call must throw an IllegalStateException and change nothing. */
    static void badState(StuckKeys x, String call, Call tried) {
        refused(x, call, tried, IllegalStateException.class);
    }

    private static void refused(StuckKeys x, String call, Call tried, Class<?> due) {
        long before = x.digest();
        mustThrow(call, tried, due);
        due(call + " and then digest()", x.digest(), before);
    }

    static void mustThrow(String call, Call tried, Class<?> due) {
        try {
            long answer = tried.answer();
            wrong++;
            System.out.println(sentence + call + " answered " + answer + ", due is " + due.getSimpleName());
        } catch (RuntimeException e) {
            if (e.getClass() != due) {
                wrong++;
                System.out.println(sentence + call + " threw " + e + ", due is " + due.getSimpleName());
            }
        }
    }

    /** Numbers that are no words: too small, signs out of range, gaps, and too many letters. */
    static long[] noWords() {
        return new long[] {
            0, -1, Long.MIN_VALUE, Long.MAX_VALUE, 27, 31, 32, 1 << 10, (1 << 10) + 1,
            27L << 5 | 1, 31L << 35, 27L << 35 | 1, 1L << 40, word("abcdefghi"), word("a") | 1L << 62,
            word("aaaaaaaa") | 1L << 45, -word("a"),
        };
    }

    static void typeText(StuckKeys x, String text) {
        for (int i = 0; i < text.length(); i++) {
            due("type(" + text.charAt(i) + ") as " + i + " of " + text, x.type(text.charAt(i)), i + 1);
        }
    }

    /** Puts this text in the place of the one that is there, and runs it. */
    static long run(StuckKeys x, String text) {
        x.clearCommands();
        typeText(x, text);
        return x.runCommands();
    }

    static void end(String test) {
        if (wrong != 0) {
            System.out.println(test + ": " + wrong + " answers are not as due");
            System.exit(1);
        }
    }
}
