/** The section UNDOING A CORRECTION, with promises 9 and 10. */
public final class TakingBackEdgesTest {
    public static void main(String[] args) {
        latestThatIsNotUndone();
        noneLeft();
        noneBehindTwenty();
        bannedAndForgotten();
        pairForgottenBefore();
        strangeOnceMore();
        alsoAWordOrAName();
        nameAtThePatience();
        withTenNames();
        withTwentyStrangeWords();
        twentyFourBans();
        allow();
        allowWithBansFull();
        Check.end("TakingBackEdgesTest");
    }

    private static void takenBack(StuckKeys x, String typed) {
        Check.dueWord("takeBack()", x.takeBack(), typed);
    }

    private static void undone(StuckKeys x, int... due) {
        int sum = 0;
        for (int i = 0; i < due.length; i++) {
            Check.due("logged(" + i + ", 2)", x.logged(i, 2), due[i]);
            sum += due[i];
        }
        Check.due("whole(5)", x.whole(5), due.length);
        Check.due("whole(6)", x.whole(6), sum);
    }

    private static StuckKeys nearM() {
        StuckKeys x = Check.book("m", 1);
        x.set(0, 12);
        return x;
    }

    private static void latestThatIsNotUndone() {
        Check.sentence("The latest correction of the log that is not undone can be undone: it is marked so");
        StuckKeys x = nearM();
        Check.correctAll(x, "ma", "mb", "mc");
        takenBack(x, "mc");
        undone(x, 1, 0, 0);
        Check.correctAll(x, "md");
        takenBack(x, "md");
        takenBack(x, "mb");
        undone(x, 1, 1, 1, 0);
        Check.correctAll(x, "me", "mf");
        undone(x, 0, 0, 1, 1, 1, 0);
        takenBack(x, "mf");
        takenBack(x, "me");
        takenBack(x, "ma");
        undone(x, 1, 1, 1, 1, 1, 1);
        Check.dueWord("logged(0, 0) stays", x.logged(0, 0), "mf");
        Check.dueWord("logged(0, 1) stays", x.logged(0, 1), "m");
    }

    private static void noneLeft() {
        Check.sentence("Throws `IllegalStateException` if there is none");
        StuckKeys x = nearM();
        Check.badState(x, "takeBack() of an empty log", x::takeBack);
        Check.correctAll(x, "m", "zzzzzzzz");
        Check.badState(x, "takeBack() with no correction", x::takeBack);
        Check.correctAll(x, "ma");
        takenBack(x, "ma");
        Check.badState(x, "takeBack() again", x::takeBack);
        x.undo();
        takenBack(x, "ma");
    }

    private static void noneBehindTwenty() {
        Check.sentence("a log of the latest 20 corrections");
        StuckKeys x = nearM();
        Check.correctAll(x, Check.words('m', 21));
        for (int i = 20; i > 0; i--) {
            takenBack(x, Check.words('m', 21)[i]);
        }
        Check.due("whole(6)", x.whole(6), 20);
        Check.due("the pair of the 21st stays", x.word(Check.word("ma"), 5), 1);
        Check.badState(x, "takeBack() of the 21st", x::takeBack);
        Check.correctAll(x, "ma");
        Check.due("whole(6) with one more", x.whole(6), 19);
        takenBack(x, "ma");
        Check.badState(x, "takeBack() again", x::takeBack);
    }

    private static void bannedAndForgotten() {
        Check.sentence("its pair is banned, and is not learned any more");
        StuckKeys x = Check.book("the", 9, "ten", 1);
        x.set(2, 5);
        Check.correctAll(x, "thr", "teh", "teh", "teh");
        Check.due("word(teh, 5)", x.word(Check.word("teh"), 5), 1);
        takenBack(x, "teh");
        Check.due("word(teh, 5)", x.word(Check.word("teh"), 5), 0);
        Check.due("word(teh, 6)", x.word(Check.word("teh"), 6), 1);
        Check.due("word(the, 6)", x.word(Check.word("the"), 6), 0);
        Check.due("word(thr, 5)", x.word(Check.word("thr"), 5), 1);
        Check.due("reason(teh, the)", x.reason(Check.word("teh"), Check.word("the")), 2);
        Check.due("reason(thr, the)", x.reason(Check.word("thr"), Check.word("the")), 0);
        takenBack(x, "teh");
        Check.due("whole(3): banned once", x.whole(3), 1);
        Check.dueWord("correct(teh)", Check.correct(x, "teh"), "ten");
        Check.due("whole(2)", x.whole(2), 2);
        takenBack(x, "teh");
        Check.due("word(teh, 6)", x.word(Check.word("teh"), 6), 2);
        Check.dueWord("correct(teh)", Check.correct(x, "teh"), "teh");
        x.addName(Check.word("the"));
        x.dropWord(Check.word("the"));
        Check.due("caseOf(teh), a name being banned", x.caseOf(Check.word("teh")), 4);
    }

    private static void pairForgottenBefore() {
        Check.sentence("its pair is banned, and is not learned any more");
        StuckKeys x = nearM();
        for (String typed : Check.words('k', 23)) {
            Check.correctAll(x, typed, typed);
        }
        Check.correctAll(x, "ma", "mz");
        Check.due("word(ma, 5), forgotten for mz", x.word(Check.word("ma"), 5), 0);
        takenBack(x, "mz");
        Check.due("whole(2)", x.whole(2), 23);
        takenBack(x, "ma");
        Check.due("whole(2), none to forget", x.whole(2), 23);
        Check.dueWord("pair(0, 0)", x.pair(0, 0), "ka");
        Check.dueWord("pair(22, 0)", x.pair(22, 0), "kw");
        Check.due("word(ma, 6)", x.word(Check.word("ma"), 6), 1);
        Check.due("word(ma, 2)", x.word(Check.word("ma"), 2), 1);
    }

    private static void strangeOnceMore() {
        Check.sentence("the typed word is strange once more, as with 4");
        StuckKeys x = nearM();
        x.set(2, 5);
        Check.correctAll(x, "ma", "ma", "mb");
        takenBack(x, "mb");
        Check.due("word(mb, 2)", x.word(Check.word("mb"), 2), 1);
        takenBack(x, "ma");
        takenBack(x, "ma");
        Check.due("word(ma, 2)", x.word(Check.word("ma"), 2), 2);
        Check.correctAll(x, "ma");
        Check.due("word(ma, 2)", x.word(Check.word("ma"), 2), 3);
        Check.due("word(m, 2)", x.word(Check.word("m"), 2), 0);
        Check.due("whole(4)", x.whole(4), 2);
    }

    private static void alsoAWordOrAName() {
        Check.sentence("also if it is a word of the book or a name by then");
        StuckKeys x = nearM();
        x.set(2, 2);
        Check.correctAll(x, "ma", "ma", "ma", "mb");
        x.addWord(Check.word("mb"), 5);
        takenBack(x, "mb");
        Check.due("word(mb, 2), a word of the book", x.word(Check.word("mb"), 2), 1);
        Check.due("word(mb, 0) stays", x.word(Check.word("mb"), 0), 5);
        x.addName(Check.word("ma"));
        takenBack(x, "ma");
        Check.due("word(ma, 2), a name", x.word(Check.word("ma"), 2), 1);
        takenBack(x, "ma");
        Check.due("word(ma, 2) at the patience", x.word(Check.word("ma"), 2), 0);
        Check.due("word(ma, 1)", x.word(Check.word("ma"), 1), 1);
        Check.due("whole(1), a name once", x.whole(1), 1);
        Check.due("whole(4)", x.whole(4), 1);
        takenBack(x, "ma");
        Check.due("word(ma, 2) once more", x.word(Check.word("ma"), 2), 1);
        StuckKeys y = nearM();
        y.set(2, 1);
        Check.correctAll(y, "ma");
        y.addWord(Check.word("ma"), 5);
        takenBack(y, "ma");
        Check.due("word(ma, 1), a word of the book at the patience", y.word(Check.word("ma"), 1), 1);
        Check.due("word(ma, 0) stays", y.word(Check.word("ma"), 0), 5);
        Check.due("word(ma, 2)", y.word(Check.word("ma"), 2), 0);
        Check.due("caseOf(ma)", y.caseOf(Check.word("ma")), 0);
    }

    private static void nameAtThePatience() {
        Check.sentence("if it is just the patience then, and there are fewer than 10 names, it becomes a name");
        for (int patience = 1; patience <= 5; patience++) {
            StuckKeys x = nearM();
            x.set(2, patience);
            for (int i = 0; i < patience; i++) {
                Check.correctAll(x, "ma");
            }
            for (int times = 1; times < patience; times++) {
                takenBack(x, "ma");
                Check.due("word(ma, 2)", x.word(Check.word("ma"), 2), times);
                Check.due("word(ma, 1)", x.word(Check.word("ma"), 1), 0);
            }
            takenBack(x, "ma");
            Check.due("word(ma, 2) at patience " + patience, x.word(Check.word("ma"), 2), 0);
            Check.due("word(ma, 1) at patience " + patience, x.word(Check.word("ma"), 1), 1);
            Check.due("caseOf(ma)", x.caseOf(Check.word("ma")), 1);
        }
    }

    private static void withTenNames() {
        Check.sentence("and there are fewer than 10 names");
        StuckKeys x = nearM();
        x.set(2, 1);
        Check.correctAll(x, "ma", "mb", "mc", "md");
        for (int i = 1; i <= 9; i++) {
            x.addName(i);
        }
        takenBack(x, "md");
        Check.due("word(md, 1) as the tenth", x.word(Check.word("md"), 1), 1);
        Check.due("whole(4)", x.whole(4), 0);
        takenBack(x, "mc");
        Check.due("word(mc, 1) with ten", x.word(Check.word("mc"), 1), 0);
        Check.due("word(mc, 2) with ten", x.word(Check.word("mc"), 2), 1);
        x.dropName(1);
        x.addName(Check.word("mb"));
        takenBack(x, "mb");
        Check.due("word(mb, 2), one of the ten", x.word(Check.word("mb"), 2), 1);
        Check.due("whole(1)", x.whole(1), 10);
        x.dropName(2);
        takenBack(x, "ma");
        Check.due("word(ma, 1) with nine", x.word(Check.word("ma"), 1), 1);
        Check.due("whole(4)", x.whole(4), 2);
    }

    private static void withTwentyStrangeWords() {
        Check.sentence("If there are 20 strange words, and it is none, the one that came first is forgotten");
        StuckKeys x = nearM();
        x.set(2, 5);
        Check.correctAll(x, "ma", "mb", "mb");
        x.set(0, 0);
        Check.correctAll(x, Check.words('z', 20));
        x.set(0, 12);
        takenBack(x, "mb");
        Check.due("whole(4)", x.whole(4), 20);
        Check.due("word(za, 2)", x.word(Check.word("za"), 2), 0);
        Check.due("word(mb, 2)", x.word(Check.word("mb"), 2), 1);
        takenBack(x, "mb");
        Check.due("whole(4)", x.whole(4), 20);
        Check.due("word(zb, 2), mb being strange", x.word(Check.word("zb"), 2), 1);
        x.set(2, 1);
        takenBack(x, "ma");
        Check.due("word(ma, 1), at once a name", x.word(Check.word("ma"), 1), 1);
        Check.due("word(zb, 2)", x.word(Check.word("zb"), 2), 0);
        Check.due("whole(4)", x.whole(4), 19);
    }

    /** 24 bans, of ma to mx with m. */
    private static StuckKeys bansFull() {
        StuckKeys x = nearM();
        x.set(2, 5);
        int bans = 0;
        for (String typed : Check.words('m', 24)) {
            Check.correctAll(x, typed);
            takenBack(x, typed);
            bans++;
            Check.due("whole(3)", x.whole(3), bans);
        }
        return x;
    }

    private static void twentyFourBans() {
        Check.sentence("or there are 24 bans and its pair is not among them");
        StuckKeys x = bansFull();
        Check.correctAll(x, "my");
        Check.badState(x, "takeBack() with 24 bans", x::takeBack);
        Check.due("whole(3)", x.whole(3), 24);
        Check.due("logged(0, 2)", x.logged(0, 2), 0);
        Check.due("word(my, 5)", x.word(Check.word("my"), 5), 1);
        Check.due("word(my, 2)", x.word(Check.word("my"), 2), 0);
        x.allow(Check.word("mc"), Check.word("m"));
        takenBack(x, "my");
        Check.due("whole(3) with 23 before", x.whole(3), 24);
        Check.due("word(my, 6)", x.word(Check.word("my"), 6), 1);
        Check.due("word(mc, 6)", x.word(Check.word("mc"), 6), 0);
        x.allow(Check.word("my"), Check.word("m"));
        Check.correctAll(x, "mc", "mc", "mc");
        takenBack(x, "mc");
        Check.due("whole(3)", x.whole(3), 24);
        takenBack(x, "mc");
        Check.due("whole(3), its pair being among them", x.whole(3), 24);
        Check.due("whole(6)", x.whole(6), 19);
        x.allow(Check.word("ma"), Check.word("m"));
        takenBack(x, "mc");
        Check.due("whole(3), its pair being among 23", x.whole(3), 23);
    }

    private static void allow() {
        Check.sentence("Returns 1 if it was there, otherwise 0");
        StuckKeys x = Check.book("the", 9);
        long teh = Check.word("teh");
        long the = Check.word("the");
        Check.due("allow without bans", x.allow(teh, the), 0);
        Check.correctAll(x, "teh", "teh", "thr");
        takenBack(x, "thr");
        takenBack(x, "teh");
        Check.due("allow(the, teh)", x.allow(the, teh), 0);
        Check.due("allow(teh, thr)", x.allow(teh, Check.word("thr")), 0);
        Check.due("whole(3)", x.whole(3), 2);
        Check.due("allow(teh, the)", x.allow(teh, the), 1);
        Check.due("whole(3)", x.whole(3), 1);
        Check.due("reason(teh, the)", x.reason(teh, the), 0);
        Check.due("reason(thr, the)", x.reason(Check.word("thr"), the), 2);
        Check.due("allow(teh, the) again", x.allow(teh, the), 0);
        Check.due("word(teh, 5): it is learned anew alone", x.word(teh, 5), 0);
        Check.dueWord("correct(teh)", Check.correct(x, "teh"), "the");
        Check.due("pair(0, 2)", x.pair(0, 2), 1);
    }

    private static void allowWithBansFull() {
        Check.sentence("at most 24 bans (a typed word and another one)");
        StuckKeys x = bansFull();
        Check.due("allow of none", x.allow(Check.word("my"), Check.word("m")), 0);
        for (String typed : new String[] {"ma", "mx", "mk"}) {
            Check.due("allow(" + typed + ", m)", x.allow(Check.word(typed), Check.word("m")), 1);
            Check.due("allow(" + typed + ", m) again", x.allow(Check.word(typed), Check.word("m")), 0);
        }
        for (String typed : Check.words('m', 24)) {
            boolean allowed = typed.equals("ma") || typed.equals("mx") || typed.equals("mk");
            Check.due("word(" + typed + ", 6)", x.word(Check.word(typed), 6), allowed ? 0 : 1);
        }
        Check.due("whole(3)", x.whole(3), 21);
    }
}
