import java.util.ArrayList;
import java.util.List;

/**
 * The section EXCEPTIONS: every call that is refused, on objects in several states. Each is tried on an object of its
 * own, of which all is seen then: its tables, what each undo brings back, and what its command text does.
 */
public final class RefusedTest {
    private interface Tried {
        long on(StuckKeys x);
    }

    private interface Maker {
        StuckKeys make();
    }

    private record Refusal(String name, Class<?> due, Tried tried) {
    }

    private static final Class<?> ARGUMENT = IllegalArgumentException.class;
    private static final Class<?> STATE = IllegalStateException.class;
    private static final long THE = Check.word("the");
    private static final long BIG = Integer.MAX_VALUE;
    private static final long SMALL = Integer.MIN_VALUE;

    public static void main(String[] args) {
        Check.sentence("A call that throws an exception changes nothing");
        List<Refusal> always = new ArrayList<>();
        wordsThatAreNone(always);
        numbersOutOfRange(always);
        refused("empty", StuckKeys::new, always, "a", "the");
        refused("middle", RefusedTest::middle, always, "the", "ten", "teh", "thr", "zip", "bob");
        refused("full", RefusedTest::full, always, "m", "ma", "mx", "kx");
        refused("full text", RefusedTest::fullText, always, "the", "a");
        inCertainStates();
        Check.sentence("If several exceptions of a method apply, the one that is listed first is thrown");
        severalApply();
        Check.end("RefusedTest");
    }

    private static void wordsThatAreNone(List<Refusal> all) {
        for (long none : Check.noWords()) {
            add(all, "addWord(" + none + ", 1)", x -> x.addWord(none, 1));
            add(all, "dropWord(" + none + ")", x -> x.dropWord(none));
            add(all, "addName(" + none + ")", x -> x.addName(none));
            add(all, "dropName(" + none + ")", x -> x.dropName(none));
            add(all, "correct(" + none + ")", x -> x.correct(none));
            add(all, "allow(" + none + ", the)", x -> x.allow(none, THE));
            add(all, "allow(the, " + none + ")", x -> x.allow(THE, none));
            add(all, "word(" + none + ", 0)", x -> x.word(none, 0));
            add(all, "distance(" + none + ", the)", x -> x.distance(none, THE));
            add(all, "distance(the, " + none + ")", x -> x.distance(THE, none));
            add(all, "caseOf(" + none + ")", x -> x.caseOf(none));
            add(all, "suggestion(" + none + ", 0)", x -> x.suggestion(none, 0));
            add(all, "reason(" + none + ", the)", x -> x.reason(none, THE));
            add(all, "reason(the, " + none + ")", x -> x.reason(THE, none));
            add(all, "risk(" + none + ")", x -> x.risk(none));
            add(all, "bestDropping(" + none + ", the)", x -> x.bestDropping(none, THE));
            add(all, "bestDropping(the, " + none + ")", x -> x.bestDropping(THE, none));
        }
    }

    private static void add(List<Refusal> all, String name, Tried tried) {
        all.add(new Refusal(name, ARGUMENT, tried));
    }

    private static void numbersOutOfRange(List<Refusal> all) {
        for (long bad : new long[] {-1, SMALL, BIG}) {
            int n = (int) bad;
            add(all, "addWord(the, " + n + ")", x -> x.addWord(THE, n));
            add(all, "setStick(" + n + ", 0)", x -> x.setStick(n, 0));
            add(all, "setStick(0, " + n + ")", x -> x.setStick(0, n));
            add(all, "set(" + n + ", 1)", x -> x.set(n, 1));
            add(all, "set(0, " + n + ")", x -> x.set(0, n));
            add(all, "set(1, " + n + ")", x -> x.set(1, n));
            add(all, "set(2, " + n + ")", x -> x.set(2, n));
            add(all, "word(the, " + n + ")", x -> x.word(THE, n));
            add(all, "pair(0, " + n + ")", x -> x.pair(0, n));
            add(all, "logged(0, " + n + ")", x -> x.logged(0, n));
            add(all, "key(" + n + ", 0)", x -> x.key(n, 0));
            add(all, "key(0, " + n + ")", x -> x.key(0, n));
            add(all, "whole(" + n + ")", x -> x.whole(n));
            add(all, "type(" + n + ")", x -> x.type(n));
        }
        for (long bad : new long[] {-1, SMALL}) {
            int n = (int) bad;
            add(all, "listed(false, " + n + ")", x -> x.listed(false, n));
            add(all, "listed(true, " + n + ")", x -> x.listed(true, n));
            add(all, "pair(" + n + ", 0)", x -> x.pair(n, 0));
            add(all, "logged(" + n + ", 0)", x -> x.logged(n, 0));
            add(all, "suggestion(the, " + n + ")", x -> x.suggestion(THE, n));
        }
        firstBeyondTheEnds(all);
    }

    private static void firstBeyondTheEnds(List<Refusal> all) {
        add(all, "addWord(the, 0)", x -> x.addWord(THE, 0));
        add(all, "addWord(the, 1000)", x -> x.addWord(THE, 1000));
        add(all, "setStick(26, 0)", x -> x.setStick(26, 0));
        add(all, "setStick(25, 3)", x -> x.setStick(25, 3));
        add(all, "set(3, 1)", x -> x.set(3, 1));
        add(all, "set(0, 13)", x -> x.set(0, 13));
        add(all, "set(1, 0)", x -> x.set(1, 0));
        add(all, "set(1, 10)", x -> x.set(1, 10));
        add(all, "set(2, 0)", x -> x.set(2, 0));
        add(all, "set(2, 6)", x -> x.set(2, 6));
        add(all, "word(the, 7)", x -> x.word(THE, 7));
        add(all, "pair(0, 3)", x -> x.pair(0, 3));
        add(all, "logged(0, 3)", x -> x.logged(0, 3));
        add(all, "key(26, 4)", x -> x.key(26, 4));
        add(all, "key(25, 5)", x -> x.key(25, 5));
        add(all, "whole(12)", x -> x.whole(12));
        add(all, "type(128)", x -> x.type(128));
    }

    private static void refused(String state, Maker maker, List<Refusal> refusals, String... words) {
        List<Long> due = Seen.all(maker.make(), words);
        for (Refusal refusal : refusals) {
            StuckKeys x = maker.make();
            String call = refusal.name + " on the object '" + state + "'";
            Check.mustThrow(call, () -> refusal.tried.on(x), refusal.due);
            Seen.same(call, Seen.all(x, words), due);
        }
    }

    /** Something in every table, four states to undo, and a text. */
    private static StuckKeys middle() {
        StuckKeys x = Check.book("the", 5, "ten", 1);
        x.addName(Check.word("bob"));
        x.setStick(0, 2);
        Check.correctAll(x, "teh", "zip", "thr", "teh");
        x.takeBack();
        x.correct(Check.word("zip"));
        x.set(1, 3);
        Check.typeText(x, "type zip;back;");
        return x;
    }

    /** 20 words, 10 names, 24 pairs, 24 bans, 20 strange words, 20 corrections, and four states to undo. */
    private static StuckKeys full() {
        StuckKeys x = Check.book("m", 1);
        x.set(0, 12);
        x.set(1, 9);
        x.set(2, 5);
        for (String word : Check.words('z', 19)) {
            x.addWord(Check.word("zqzqzq" + word), 999);
        }
        for (int i = 1; i <= 10; i++) {
            x.addName(i);
        }
        for (String typed : Check.words('m', 24)) {
            x.correct(Check.word(typed));
            x.takeBack();
        }
        Check.correctAll(x, Check.words('k', 24));
        Check.typeText(x, "type m;");
        return x;
    }

    private static StuckKeys fullText() {
        StuckKeys x = Check.book("the", 5, "ten", 1);
        Check.typeText(x, "type a;word the 7;name a;back;" + " ".repeat(120));
        return x;
    }

    private static List<Refusal> one(String name, Class<?> due, Tried tried) {
        List<Refusal> one = new ArrayList<>();
        one.add(new Refusal(name, due, tried));
        return one;
    }

    private static void inCertainStates() {
        String[] words = {"m", "ma", "mx", "kx", "zzzz"};
        refused("empty", StuckKeys::new, one("takeBack()", STATE, x -> x.takeBack()), words);
        refused("empty", StuckKeys::new, one("undo()", STATE, x -> x.undo()), words);
        refused("full", RefusedTest::full, one("addWord as the 21st", STATE, x -> x.addWord(1, 1)), words);
        refused("full", RefusedTest::full, one("addWord as the 21st", STATE, x -> x.addWord(26, 999)), words);
        refused("full", RefusedTest::full, one("addName as the 11th", STATE, x -> x.addName(26)), words);
        refused("full", RefusedTest::full, one("takeBack() with 24 bans", STATE, x -> x.takeBack()), words);
        refused("all undone", RefusedTest::allUndone, one("takeBack()", STATE, x -> x.takeBack()), words);
        refused("undone", RefusedTest::undoneToTheEnd, one("undo()", STATE, x -> x.undo()), words);
        for (int value : new int[] {0, 'a', ' ', ';', 127}) {
            String call = "type(" + value + ") as the 151st";
            refused("full text", RefusedTest::fullText, one(call, STATE, x -> x.type(value)), "the", "a");
        }
    }

    private static StuckKeys allUndone() {
        StuckKeys x = Check.book("m", 1);
        x.set(0, 12);
        Check.correctAll(x, "ma", "mx", "ma", "zzzz");
        x.takeBack();
        x.takeBack();
        x.takeBack();
        Check.typeText(x, "back;");
        return x;
    }

    private static StuckKeys undoneToTheEnd() {
        StuckKeys x = Check.book("m", 1);
        for (String typed : Check.words('m', 8)) {
            x.correct(Check.word(typed));
        }
        for (int left = 3; left >= 0; left--) {
            Check.due("undo()", x.undo(), left);
        }
        Check.typeText(x, "back;back;");
        return x;
    }

    private static void severalApply() {
        String[] words = {"m", "ma", "mx", "kx"};
        List<Refusal> full = new ArrayList<>();
        add(full, "addWord(0, 1) with 20 words", x -> x.addWord(0, 1));
        add(full, "addWord(0, 0) with 20 words", x -> x.addWord(0, 0));
        add(full, "addWord(z, 0) with 20 words", x -> x.addWord(26, 0));
        add(full, "addWord(z, 1000) with 20 words", x -> x.addWord(26, 1000));
        add(full, "addName(27) with 10 names", x -> x.addName(27));
        add(full, "allow(0, 0)", x -> x.allow(0, 0));
        add(full, "word(0, 7)", x -> x.word(0, 7));
        add(full, "suggestion(0, -1)", x -> x.suggestion(0, -1));
        add(full, "pair(-1, 3)", x -> x.pair(-1, 3));
        add(full, "logged(-1, 3)", x -> x.logged(-1, 3));
        add(full, "key(26, 5)", x -> x.key(26, 5));
        add(full, "setStick(26, 3)", x -> x.setStick(26, 3));
        add(full, "set(3, 13)", x -> x.set(3, 13));
        refused("full", RefusedTest::full, full, words);
        List<Refusal> text = new ArrayList<>();
        add(text, "type(128) as the 151st", x -> x.type(128));
        add(text, "type(-1) as the 151st", x -> x.type(-1));
        refused("full text", RefusedTest::fullText, text, "the", "a");
        Check.sentence("NONE is returned only if no exception applies");
        List<Refusal> none = new ArrayList<>();
        add(none, "pair(0, 3) without pairs", x -> x.pair(0, 3));
        add(none, "logged(0, -1) without corrections", x -> x.logged(0, -1));
        add(none, "listed(true, -1) without names", x -> x.listed(true, -1));
        add(none, "suggestion(a, -1) without words", x -> x.suggestion(1, -1));
        add(none, "suggestion(0, 0) without words", x -> x.suggestion(0, 0));
        add(none, "word(0, 4) without words", x -> x.word(0, 4));
        refused("empty", StuckKeys::new, none, "a", "the");
    }
}
