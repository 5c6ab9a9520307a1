/** What the tests share: words as numbers, and answers held against those that are due. */
final class Check {
    interface Call {
        long answer();
    }

    private static int wrong = 0;

    private Check() {
    }

    static long word(String letters) {
        long number = 0;
        for (int i = 0; i < letters.length(); i++) {
            number = number * 32 + (letters.charAt(i) - 'a' + 1);
        }
        return number;
    }

    static String letters(long number) {
        StringBuilder letters = new StringBuilder();
        for (long rest = number; rest > 0; rest /= 32) {
            letters.insert(0, (char) ('a' + rest % 32 - 1));
        }
        return letters.toString();
    }

    static void due(String call, long got, long want) {
        if (got != want) {
            wrong++;
            System.out.println(call + " answered " + got + ", due is " + want);
        }
    }

    static void dueWord(String call, long got, String want) {
        due(call, got, want == null ? StuckKeys.NONE : word(want));
    }

    /** The call must throw an IllegalArgumentException and change nothing. */
    static void badArgument(StuckKeys x, String call, Call tried) {
        refused(x, call, tried, IllegalArgumentException.class);
    }

    /** The call must throw an IllegalStateException and change nothing. */
    static void badState(StuckKeys x, String call, Call tried) {
        refused(x, call, tried, IllegalStateException.class);
    }

    private static void refused(StuckKeys x, String call, Call tried, Class<?> due) {
        long before = x.digest();
        try {
            long answer = tried.answer();
            wrong++;
            System.out.println(call + " answered " + answer + ", due is " + due.getSimpleName());
        } catch (RuntimeException e) {
            if (e.getClass() != due) {
                wrong++;
                System.out.println(call + " threw " + e + ", due is " + due.getSimpleName());
            }
        }
        due(call + " and then digest()", x.digest(), before);
    }

    /** Numbers that are no words: too small, signs out of range, gaps, and too many letters. */
    static long[] noWords() {
        return new long[] {
            0, -1, Long.MIN_VALUE, Long.MAX_VALUE, 27, 31, 32, 1 << 10, (1 << 10) + 1,
            27L << 5 | 1, 31L << 35, 27L << 35 | 1, 1L << 40, word("abcdefghi"), word("a") | 1L << 62,
            word("aaaaaaaa") | 1L << 45, -word("a"),
        };
    }

    static void typeText(StuckKeys x, String text) {
        for (int i = 0; i < text.length(); i++) {
            due("type(" + text.charAt(i) + ") as " + i + " of " + text, x.type(text.charAt(i)), i + 1);
        }
    }

    /** Puts this text in the place of the one that is there, and runs it. */
    static long run(StuckKeys x, String text) {
        x.clearCommands();
        typeText(x, text);
        return x.runCommands();
    }

    static void end(String test) {
        if (wrong != 0) {
            System.out.println(test + ": " + wrong + " answers are not as due");
            System.exit(1);
        }
    }
}
