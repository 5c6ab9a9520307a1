import java.util.ArrayList;
import java.util.List;

/** All that calls can tell of an object. */
final class Seen {
    private Seen() {
    }

    /** What can be seen of the state that an undo brings back, with the strange words and bans of these words. */
    static List<Long> state(StuckKeys x, String... words) {
        List<Long> seen = new ArrayList<>();
        seen.add(x.digest());
        for (String typed : words) {
            seen.add((long) x.word(Check.word(typed), 2));
            int bans = x.word(Check.word(typed), 6);
            seen.add((long) bans);
            for (String word : words) {
                if (bans > 0) {
                    seen.add((long) x.reason(Check.word(typed), Check.word(word)));
                }
            }
        }
        return seen;
    }

    /** Undoes all there is and runs the command text then, so that the object is spent. */
    static List<Long> all(StuckKeys x, String... words) {
        List<Long> seen = state(x, words);
        long left = 1;
        for (int i = 0; i < 5 && left > 0; i++) {
            left = undo(x);
            seen.add(left);
            seen.addAll(state(x, words));
        }
        seen.add((long) x.runCommands());
        seen.addAll(state(x, words));
        return seen;
    }

    private static long undo(StuckKeys x) {
        try {
            return x.undo();
        } catch (IllegalStateException e) {
            return StuckKeys.NONE;
        }
    }

    static void same(String what, List<Long> got, List<Long> want) {
        Check.due(what + ": values seen", got.size(), want.size());
        for (int i = 0; i < got.size() && i < want.size(); i++) {
            Check.due(what + ": value " + i + " of all that is seen", got.get(i), want.get(i));
        }
    }
}
