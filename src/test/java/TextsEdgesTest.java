/** The section TEXTS OF COMMANDS, with promises 24 to 26. */
public final class TextsEdgesTest {
    private static final int FINE = -1;

    public static void main(String[] args) {
        bytes();
        lengthOfTheText();
        fullText();
        clearing();
        noCommand();
        spacesThatMustStand();
        spacesThatMayStand();
        lettersOfAWord();
        digitsOfANumber();
        everyByteAtEveryPlace();
        unknownCommandWords();
        textsThatEndTooSoon();
        numbersOutOfRange();
        faultDoesNothing();
        firstLetterOfAStick();
        commandsThatWouldThrow();
        runSavesOneState();
        textStays();
        Check.end("TextsEdgesTest");
    }

    private static String spaces(int count) {
        return " ".repeat(count);
    }

    /** Runs the text on a new object; a fault is told by its place. */
    private static void fault(String text, int at) {
        StuckKeys x = new StuckKeys();
        long answer = Check.run(x, text);
        Check.due("fault of '" + text + "'", answer >= 0 ? FINE : -10 - answer, at);
        Check.due("the text '" + text + "' stays", x.whole(11), text.length());
        if (at != FINE) {
            Check.badState(x, "undo() after '" + text + "'", x::undo);
        }
    }

    private static void ran(StuckKeys x, String text, int commands) {
        Check.due("run of '" + text + "'", Check.run(x, text), commands);
    }

    private static void bytes() {
        Check.sentence("`value`: 0 to 127");
        StuckKeys x = new StuckKeys();
        for (int value = 0; value <= 127; value++) {
            Check.due("type(" + value + ")", x.type(value), value + 1);
        }
        StuckKeys y = new StuckKeys();
        for (int value : new int[] {-1, 128, 129, 255, 256, 160, Integer.MIN_VALUE, Integer.MAX_VALUE}) {
            Check.badArgument(y, "type(" + value + ")", () -> y.type(value));
        }
        Check.due("whole(11)", y.whole(11), 0);
        for (int value : new int[] {0, 127, '\t', '\n', 31, 33, '_'}) {
            StuckKeys z = new StuckKeys();
            z.type(value);
            Check.due("run of byte " + value, z.runCommands(), -10);
        }
    }

    private static void lengthOfTheText() {
        Check.sentence("The command text has at most 150 bytes");
        StuckKeys x = new StuckKeys();
        for (int length = 1; length <= 150; length++) {
            Check.due("type(32)", x.type(' '), length);
            Check.due("whole(11)", x.whole(11), length);
        }
        Check.badState(x, "type(32) as the 151st", () -> x.type(' '));
        Check.badState(x, "type(0) as the 151st", () -> x.type(0));
        Check.badState(x, "type(127) as the 151st", () -> x.type(127));
        Check.badArgument(x, "type(-1) as the 151st", () -> x.type(-1));
        Check.badArgument(x, "type(128) as the 151st", () -> x.type(128));
        Check.due("runCommands()", x.runCommands(), 0);
        Check.due("clearCommands()", x.clearCommands(), 150);
        Check.due("type(32) then", x.type(' '), 1);
    }

    private static void fullText() {
        Check.sentence("The command text has at most 150 bytes");
        fault(spaces(143) + "drop a;", FINE);
        fault("drop a" + spaces(143) + ";", FINE);
        fault("drop " + spaces(143) + "a;", FINE);
        fault("drop a;" + spaces(143), FINE);
        fault("drop a;".repeat(21) + spaces(3), FINE);
        fault(spaces(149) + ";", 149);
        fault(spaces(149) + "a", 149);
        fault(spaces(147) + "bac", 147);
        fault(spaces(146) + "back", 150);
        fault("drop a" + spaces(144), 150);
        fault("drop " + spaces(137) + "abcdefgh", 150);
        fault("drop " + spaces(136) + "abcdefghi", 149);
        fault("set 0" + spaces(142) + "000", 150);
        fault("set 0" + spaces(141) + "0000", 149);
        fault("a".repeat(150), 0);
        fault("back;".repeat(29) + "backx", 145);
        fault("back;".repeat(30), FINE);
        StuckKeys x = new StuckKeys();
        ran(x, "drop a;".repeat(20) + "name b;" + spaces(3), 21);
        Check.due("the last one is done", x.whole(1), 1);
        ran(x, "set 0 4;".repeat(18) + "set 01", -10 - 150);
    }

    private static void clearing() {
        Check.sentence("Returns the length that it had");
        StuckKeys x = new StuckKeys();
        Check.due("clearCommands() of an empty one", x.clearCommands(), 0);
        x.type('a');
        Check.due("clearCommands() of one byte", x.clearCommands(), 1);
        Check.due("clearCommands() again", x.clearCommands(), 0);
        Check.due("runCommands()", x.runCommands(), 0);
        ran(x, "drop a;", 1);
        ran(x, "drop", -10 - 4);
        ran(x, "", 0);
    }

    private static void noCommand() {
        Check.sentence("perhaps none: a text that is empty, or has spaces alone, has no fault");
        for (int count : new int[] {0, 1, 2, 149, 150}) {
            StuckKeys x = new StuckKeys();
            ran(x, spaces(count), 0);
            Check.due("undo() of it", x.undo(), 0);
        }
    }

    private static void spacesThatMustStand() {
        Check.sentence("followed by its arguments, each with at least one space (byte 32) in front");
        fault("worda 1;", 0);
        fault("word a1;", 6);
        fault("dropa;", 0);
        fault("namea;", 0);
        fault("typea;", 0);
        fault("allowa b;", 0);
        fault("allow ab;", 8);
        fault("sticka 1;", 0);
        fault("stick a1;", 7);
        fault("set0 0;", 3);
        fault("set 00;", 6);
        fault("drop\ta;", 4);
        fault("drop\na;", 4);
        fault("drop_a;", 4);
        fault("set 0\t0;", 5);
        fault("allow a,b;", 7);
        Check.sentence("and a semicolon");
        fault("drop a drop b;", 7);
        fault("back back;", 5);
        fault("drop a.", 6);
        fault("set 0 0:", 7);
        fault("drop a;;", 7);
        fault(";drop a;", 0);
        fault(" ; ", 1);
    }

    private static void spacesThatMayStand() {
        Check.sentence("Spaces may also stand in front of a command, in front of a semicolon, and at the end");
        StuckKeys x = new StuckKeys();
        ran(x, " drop a;", 1);
        ran(x, "drop a ;", 1);
        ran(x, "drop a; ", 1);
        ran(x, "    drop    a    ;    drop    b    ;    ", 2);
        ran(x, "drop a;drop b;", 2);
        ran(x, "   word   a   1   ;", 1);
        ran(x, "  set   0   4  ;  stick   a   0 ;  allow   a   b   ;", 3);
        ran(x, "set 0 0 ;name b ;type a ;back ;", 3);
        fault("ba ck;", 0);
        fault("b ack;", 0);
        fault("drop a b;", 7);
        fault("set 0 1 2;", 8);
        fault("set 1 2 ", 8);
        fault("back ", 5);
        fault("back  x", 6);
    }

    private static void lettersOfAWord() {
        Check.sentence("An argument is a word of 1 to 8 letters (a ninth letter cannot stand)");
        String[] fronts = {"word ", "drop ", "name ", "type ", "allow ", "allow a ", "stick "};
        String[] behind = {" 1;", ";", ";", ";", " b;", ";", " 1;"};
        for (int i = 0; i < fronts.length; i++) {
            int at = fronts[i].length();
            fault(fronts[i] + "z" + behind[i], FINE);
            fault(fronts[i] + "abcdefgh" + behind[i], FINE);
            fault(fronts[i] + "zzzzzzzz" + behind[i], FINE);
            fault(fronts[i] + "abcdefghi" + behind[i], at + 8);
            fault(fronts[i] + "abcdefghijklm" + behind[i], at + 8);
            fault(fronts[i] + "abcdefghi", at + 8);
            fault(fronts[i] + "abcdefgh", at + 8);
            fault(fronts[i] + ";", at);
            fault(fronts[i] + "1" + behind[i], at);
            fault(fronts[i] + "A" + behind[i], at);
            fault(fronts[i] + "aB" + behind[i], at + 1);
            fault(fronts[i] + "a1" + behind[i], at + 1);
        }
        StuckKeys x = new StuckKeys();
        ran(x, "word abcdefgh 5;word z 6;", 2);
        Check.due("word(abcdefgh, 0)", x.word(Check.word("abcdefgh"), 0), 5);
        Check.due("word(z, 0)", x.word(26, 0), 6);
    }

    private static void digitsOfANumber() {
        Check.sentence("or a number of one to three digits (zeros in front are allowed; a fourth digit cannot stand)");
        String[] fronts = {"word a ", "stick a ", "set ", "set 0 "};
        String[] behind = {";", ";", " 1;", ";"};
        for (int i = 0; i < fronts.length; i++) {
            int at = fronts[i].length();
            for (String number : new String[] {"0", "1", "9", "01", "99", "000", "001", "999"}) {
                fault(fronts[i] + number + behind[i], FINE);
            }
            fault(fronts[i] + "0000" + behind[i], at + 3);
            fault(fronts[i] + "0001" + behind[i], at + 3);
            fault(fronts[i] + "1000" + behind[i], at + 3);
            fault(fronts[i] + "00000" + behind[i], at + 3);
            fault(fronts[i] + ";", at);
            fault(fronts[i] + "a" + behind[i], at);
            fault(fronts[i] + "-1" + behind[i], at);
            fault(fronts[i] + "+1" + behind[i], at);
            fault(fronts[i] + "1a" + behind[i], at + 1);
            fault(fronts[i] + "1.0" + behind[i], at + 1);
            fault(fronts[i] + "999", at + 3);
        }
        StuckKeys x = new StuckKeys();
        ran(x, "word a 001;word b 010;word c 100;word d 999;word e 07;set 002 005;stick a 002;", 7);
        int[] counts = {1, 10, 100, 999, 7};
        for (int i = 0; i < counts.length; i++) {
            Check.due("word(" + i + ", 0)", x.word(i + 1, 0), counts[i]);
        }
        Check.due("whole(9)", x.whole(9), 5);
        Check.due("key(0, 3)", x.key(0, 3), 2);
        ran(x, "set 000 012;set 001 009;set 000 000;", 3);
        Check.due("whole(7)", x.whole(7), 0);
        Check.due("whole(8)", x.whole(8), 9);
    }

    private static boolean isLetter(int value) {
        return value >= 'a' && value <= 'z';
    }

    /** Each byte there is, at each kind of place. */
    private static void everyByteAtEveryPlace() {
        Check.sentence("The fault of a command text is the index of the first byte that cannot stand at its place");
        for (int value = 0; value <= 127; value++) {
            String sign = "" + (char) value;
            boolean space = value == ' ';
            boolean end = value == ';';
            boolean letter = isLetter(value);
            boolean digit = value >= '0' && value <= '9';
            fault(sign, space ? FINE : 0);
            fault("drop a;" + sign, space ? FINE : 7);
            fault("back" + sign, letter ? 0 : end ? FINE : space ? 5 : 4);
            fault("drop" + sign + "a;", letter ? 0 : space ? FINE : 4);
            fault("drop " + sign + ";", letter ? FINE : space ? 6 : 5);
            fault("drop a" + sign + ";", letter || space ? FINE : end ? 7 : 6);
            fault("drop a " + sign, end ? FINE : space ? 8 : 7);
            fault("set 0 " + sign + ";", digit ? FINE : space ? 7 : 6);
            fault("set 0 1" + sign + ";", digit || space ? FINE : end ? 8 : 7);
            fault("set 0 000" + sign, end ? FINE : space ? 10 : 9);
            fault("drop abcdefgh" + sign, end ? FINE : space ? 14 : 13);
        }
    }

    private static void unknownCommandWords() {
        Check.sentence("A command word that is not one of these is at fault with its first byte");
        String[] fine = {
            "word a 1;", "drop a;", "name a;", "type a;", "back;", "allow a b;", "stick a 1;", "set 0 1;",
        };
        for (String command : fine) {
            String word = command.split("[ ;]")[0];
            String rest = command.substring(word.length());
            fault(command, FINE);
            fault(word + "x" + rest, 0);
            fault(word + "s" + rest, 0);
            fault("x" + command, 0);
            fault(word + word + rest, 0);
            for (int i = 0; i < word.length(); i++) {
                fault(word.substring(0, i) + "x" + word.substring(i + 1) + rest, 0);
                fault(word.substring(0, i) + word.substring(i + 1) + rest, 0);
            }
            fault(word.toUpperCase() + rest, 0);
            fault(word + "A" + rest, word.length());
            fault("drop a; " + word + "x" + rest, 8);
        }
        Check.sentence("found when it is complete: when a byte that is no letter, or the end of the text, follows it");
        fault("w", 0);
        fault("wor", 0);
        fault("drop a;  wor", 9);
        fault("abcdefghijklmnop", 0);
        fault("abcdefghijklmnop a;", 0);
        fault("xyz;", 0);
        fault("xyz1", 0);
        fault("  xyz  ", 2);
        fault("drop a;xyz a;!", 7);
    }

    private static void textsThatEndTooSoon() {
        Check.sentence("or the length of the text if it ends too soon");
        String[] fine = {
            "word ab 12;", "drop ab;", "name ab;", "type ab;", "back;", "allow ab cd;", "stick ab 1;", "set 0 12;",
            "word   ab   12   ;", "allow  ab  cd  ;", "back  ;",
        };
        for (String text : fine) {
            int word = text.split("[ ;]")[0].length();
            fault("", FINE);
            for (int length = 1; length < text.length(); length++) {
                String begin = text.substring(0, length);
                fault(begin, length < word ? 0 : length);
                fault(" back; " + begin, 7 + (length < word ? 0 : length));
            }
            fault(text, FINE);
        }
    }

    private static void numbersOutOfRange() {
        Check.sentence("That a number is out of its range is no fault");
        String[] texts = {
            "word a 0;", "word a 000;", "stick a 3;", "stick a 999;", "set 0 13;", "set 0 999;", "set 1 0;",
            "set 1 10;", "set 2 0;", "set 2 6;", "set 3 1;", "set 999 1;",
        };
        for (String text : texts) {
            StuckKeys x = new StuckKeys();
            long before = x.digest();
            ran(x, text + "name a;", 0);
            Check.due("whole(1)", x.whole(1), 0);
            Check.due("undo() of the run that did nothing", x.undo(), 0);
            x.clearCommands();
            Check.due("digest()", x.digest(), before);
        }
        StuckKeys x = new StuckKeys();
        ran(x, "word a 1;word b 999;stick a 0;stick a 2;set 0 0;set 0 12;set 1 1;set 1 9;set 2 1;set 2 5;", 10);
    }

    private static void faultDoesNothing() {
        Check.sentence("if it has a fault, nothing is done");
        StuckKeys x = Check.book("the", 5, "ten", 1);
        Check.correctAll(x, "teh", "zip");
        String fine = "word a 1;name b;drop the;back;type zip;set 0 0;stick a 2;";
        ran(x, fine + "bac;", -10 - fine.length());
        Check.due("whole(0)", x.whole(0), 2);
        Check.due("whole(1)", x.whole(1), 0);
        Check.due("whole(6)", x.whole(6), 0);
        Check.due("whole(7)", x.whole(7), 4);
        Check.due("key(0, 3)", x.key(0, 3), 0);
        Check.due("word(zip, 2)", x.word(Check.word("zip"), 2), 1);
        Check.due("undo(): no state was saved", x.undo(), 3);
        Check.due("word(zip, 2)", x.word(Check.word("zip"), 2), 0);
    }

    private static void firstLetterOfAStick() {
        Check.sentence("setStick(the first letter of w, n)");
        StuckKeys x = new StuckKeys();
        ran(x, "stick a 1;stick zabcdefg 2;stick mn 1;stick bbbbbbbb 2;", 4);
        for (int letter = 0; letter < 26; letter++) {
            int due = letter == 0 || letter == 12 ? 1 : letter == 25 || letter == 1 ? 2 : 0;
            Check.due("key(" + letter + ", 3)", x.key(letter, 3), due);
        }
    }

    private static void commandsThatWouldThrow() {
        Check.sentence("until one of them would throw an exception, which is not thrown; those before it stay done,"
                + " and they alone count");
        StuckKeys x = new StuckKeys();
        for (String word : Check.words('b', 19)) {
            x.addWord(Check.word(word), 1);
        }
        ran(x, "word a 2;word ba 999;word z 1;name z;", 2);
        Check.due("whole(0)", x.whole(0), 20);
        Check.due("word(ba, 0)", x.word(Check.word("ba"), 0), 999);
        Check.due("whole(1)", x.whole(1), 0);
        ran(x, "drop a;word z 3;word z 0;", 2);
        Check.due("word(z, 0)", x.word(26, 0), 3);
        ran(x, "name a;name b;name c;name d;name e;name f;name g;name h;name i;name j;name a;name k;drop z;", 11);
        Check.due("whole(1)", x.whole(1), 10);
        Check.due("whole(0)", x.whole(0), 20);
        bansFullInARun();
        neverThrowing();
    }

    private static void bansFullInARun() {
        StuckKeys x = Check.book("m", 1);
        x.set(0, 12);
        x.set(2, 5);
        Check.typeText(x, "type ma;back;");
        for (String typed : Check.words('m', 24)) {
            Check.correctAll(x, typed);
            x.takeBack();
        }
        ran(x, "back;name a;", 0);
        ran(x, "type my;back;name a;", 1);
        Check.due("whole(3)", x.whole(3), 24);
        Check.due("whole(6)", x.whole(6), 19);
        ran(x, "allow mc m;back;back;", 2);
        ran(x, "allow my m;type mc;type mc;back;back;back;", 5);
        Check.due("whole(3)", x.whole(3), 24);
    }

    private static void neverThrowing() {
        StuckKeys x = new StuckKeys();
        ran(x, "drop a;drop a;allow a b;type a;type a;type a;type a;back;drop a;", 7);
        Check.due("a is a name", x.word(1, 1), 1);
    }

    private static void runSavesOneState() {
        Check.sentence("A run saves one state, the one from before it; its commands save none");
        StuckKeys x = Check.book("the", 5);
        ran(x, "type the;type the;type the;type the;type the;type the;type teh;back;name a;drop the;", 10);
        Check.due("undo()", x.undo(), 1);
        Check.due("word(the, 0)", x.word(Check.word("the"), 0), 5);
        Check.due("whole(5)", x.whole(5), 0);
        Check.due("whole(1)", x.whole(1), 0);
        ran(x, "type the;back;type the;", 1);
        Check.due("undo() of one that stopped", x.undo(), 1);
        Check.due("word(the, 0)", x.word(Check.word("the"), 0), 5);
        for (int i = 0; i < 3; i++) {
            x.addWord(Check.word("the"), 6 + i);
        }
        ran(x, "word the 20;word the 21;word the 22;word the 23;word the 24;", 5);
        int[] counts = {8, 7, 6, 5};
        for (int i = 0; i < 4; i++) {
            Check.due("undo() of four", x.undo(), 3 - i);
            Check.due("word(the, 0)", x.word(Check.word("the"), 0), counts[i]);
        }
        Check.badState(x, "undo() of the fifth", x::undo);
    }

    private static void textStays() {
        Check.sentence("Runs the command text, which stays as it is");
        StuckKeys x = new StuckKeys();
        ran(x, "type a;", 1);
        Check.due("runCommands() again", x.runCommands(), 1);
        Check.due("word(a, 2)", x.word(1, 2), 2);
        Check.due("whole(11)", x.whole(11), 7);
        x.type('x');
        Check.due("runCommands() with a fault", x.runCommands(), -10 - 7);
        Check.due("runCommands() with a fault again", x.runCommands(), -10 - 7);
        x.undo();
        x.undo();
        Check.due("whole(11) after undo", x.whole(11), 8);
        Check.due("runCommands()", x.runCommands(), -10 - 7);
    }
}
