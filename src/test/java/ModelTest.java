import java.util.ArrayList;
import java.util.Collections;
import java.util.HashMap;
import java.util.LinkedHashMap;
import java.util.List;
import java.util.Map;
import java.util.TreeMap;
import java.util.TreeSet;
import java.util.regex.Matcher;
import java.util.regex.Pattern;

/**
 * Runs of calls drawn by a fixed sequence of numbers, each answer held against that of a plain model, which was
 * written from the document with lists, maps, texts and patterns.
 */
public final class ModelTest {
    private static final int RUNS = 900;
    private static final int CALLS = 512;
    private static final long ARGUMENT = Long.MIN_VALUE + 1;
    private static final long STATE = Long.MIN_VALUE + 2;

    public static void main(String[] args) {
        for (int run = 0; run < RUNS; run++) {
            new Run(run).go();
        }
        Check.end("ModelTest");
    }

    // ---- one run

    private static final class Run {
        private final StuckKeys x = new StuckKeys();
        private final Model model = new Model();
        private final List<String> pool = new ArrayList<>();
        private final int run;
        private final int style;
        private long seed;
        private int calls;

        Run(int run) {
            this.run = run;
            this.style = run % 6;
            this.seed = run * 7919L + 17;
            String letters = style == 1 ? "aqsz" : style == 2 ? "abcdefghijklmnopqrstuvwxyz" : "thenaoly";
            int most = style == 3 ? 8 : style == 1 ? 3 : 4;
            for (int i = 0; i < 44; i++) {
                StringBuilder word = new StringBuilder();
                for (int length = 1 + draw(most); length > 0; length--) {
                    word.append(letters.charAt(draw(letters.length())));
                }
                pool.add(word.toString());
            }
        }

        private int draw(int bound) {
            seed = seed * 6364136223846793005L + 1442695040888963407L;
            return (int) ((seed >>> 33) % bound);
        }

        private long number() {
            if (draw(60) == 0) {
                long[] bad = Check.noWords();
                return bad[draw(bad.length)];
            }
            return Check.word(pool.get(draw(pool.size())));
        }

        /** Later runs leave fewer of the 512 calls for looking at the values in the end. */
        void go() {
            int changes = 100 + run % 7 * 60;
            while (calls < changes) {
                oneCall();
            }
            both("digest()", x::digest, model::digest);
            while (calls < CALLS - 1) {
                oneValue();
            }
            both("digest()", x::digest, model::digest);
            Check.due("calls of a run", calls, CALLS);
        }

        private void held(String call, long got, long want) {
            calls++;
            Check.due("run " + run + ": " + call, got, want);
        }

        private void oneValue() {
            String w = pool.get(draw(pool.size()));
            int index = draw(26);
            int what = draw(4);
            int value = draw(7);
            int ofWhole = draw(12);
            switch (draw(6)) {
                case 0:
                    both("whole(" + ofWhole + ")", () -> x.whole(ofWhole), () -> model.whole(ofWhole));
                    break;
                case 1:
                    both("pair(" + index + ", " + what + ")", () -> x.pair(index, what), () -> model.pair(index, what));
                    break;
                case 2:
                    both("logged(" + index + ", " + what + ")", () -> x.logged(index, what),
                            () -> model.logged(index, what));
                    break;
                default:
                    both("word(" + w + ", " + value + ")", () -> x.word(Check.word(w), value),
                            () -> model.word(w, value));
            }
        }

        private void oneCall() {
            int kind = draw(100);
            if (kind < 40) {
                change();
            } else if (kind < 60) {
                look();
            } else if (kind < 85) {
                oneValue();
            } else if (kind < 87) {
                both("digest()", x::digest, model::digest);
            } else {
                command();
            }
        }

        private void change() {
            long a = number();
            long b = number();
            int n = draw(30) == 0 ? 1000 * draw(3) : 1 + draw(style == 4 ? 999 : 6);
            int kind = draw(20);
            if (kind < 2 || style == 5 && kind < 4) {
                both("addWord(" + a + ", " + n + ")", () -> x.addWord(a, n), () -> model.addWord(a, n));
            } else if (kind < 3) {
                both("dropWord(" + a + ")", () -> x.dropWord(a), () -> model.dropWord(a));
            } else if (kind < 4) {
                both("addName(" + a + ")", () -> x.addName(a), () -> model.addName(a));
            } else if (kind < 5) {
                both("dropName(" + a + ")", () -> x.dropName(a), () -> model.dropName(a));
            } else if (kind < 6) {
                int letter = draw(28) - 1;
                int stick = draw(10) == 0 ? 3 : draw(3);
                both("setStick(" + letter + ", " + stick + ")", () -> x.setStick(letter, stick),
                        () -> model.setStick(letter, stick));
            } else if (kind < 7) {
                int what = draw(20) == 0 ? 3 : draw(3);
                int value = draw(20) == 0 ? 13 * draw(2) : 1 + draw(what == 0 ? 12 : 4);
                both("set(" + what + ", " + value + ")", () -> x.set(what, value), () -> model.set(what, value));
            } else if (kind < 16) {
                both("correct(" + a + ")", () -> x.correct(a), () -> model.correct(a));
            } else if (kind < 18) {
                both("takeBack()", x::takeBack, model::takeBack);
            } else if (kind < 19) {
                both("allow(" + a + ", " + b + ")", () -> x.allow(a, b), () -> model.allow(a, b));
            } else {
                both("undo()", x::undo, model::undo);
            }
        }

        private void look() {
            long a = number();
            long b = number();
            int index = draw(26) - 1;
            switch (draw(10)) {
                case 0:
                    both("listed(false, " + index + ")", () -> x.listed(false, index),
                            () -> model.listed(false, index));
                    break;
                case 1:
                    both("listed(true, " + index + ")", () -> x.listed(true, index),
                            () -> model.listed(true, index));
                    break;
                case 2:
                    both("distance(" + a + ", " + b + ")", () -> x.distance(a, b), () -> model.distance(a, b));
                    break;
                case 3:
                    both("caseOf(" + a + ")", () -> x.caseOf(a), () -> model.caseOf(a));
                    break;
                case 4:
                case 5:
                    int rank = draw(8) - 1 + draw(2) * draw(2) * draw(12);
                    both("suggestion(" + a + ", " + rank + ")", () -> x.suggestion(a, rank),
                            () -> model.suggestion(a, rank));
                    break;
                case 6:
                    both("reason(" + a + ", " + b + ")", () -> x.reason(a, b), () -> model.reason(a, b));
                    break;
                case 7:
                    both("risk(" + a + ")", () -> x.risk(a), () -> model.risk(a));
                    break;
                case 8:
                    both("riskiest()", x::riskiest, model::riskiest);
                    break;
                default:
                    both("bestDropping(" + a + ", " + b + ")", () -> x.bestDropping(a, b),
                            () -> model.bestDropping(a, b));
            }
        }

        private void command() {
            int kind = draw(6);
            if (kind == 0) {
                both("clearCommands()", x::clearCommands, model::clearCommands);
            } else if (kind == 1) {
                both("runCommands() of '" + model.text + "'", x::runCommands, model::runCommands);
            } else {
                StringBuilder text = new StringBuilder(commandText());
                if (draw(5) == 0) {
                    int at = draw(text.length());
                    text.setCharAt(at, " ;a1zZ~\t9".charAt(draw(9)));
                } else if (draw(8) == 0) {
                    text.deleteCharAt(draw(text.length()));
                } else if (draw(8) == 0) {
                    text.setLength(1 + draw(text.length()));
                }
                for (int i = 0; i < text.length(); i++) {
                    int value = text.charAt(i);
                    both("type(" + value + ")", () -> x.type(value), () -> model.type(value));
                }
                if (draw(20) == 0) {
                    int bad = draw(2) == 0 ? -1 : 128;
                    both("type(" + bad + ")", () -> x.type(bad), () -> model.type(bad));
                }
            }
        }

        private String commandText() {
            String a = pool.get(draw(pool.size()));
            String b = pool.get(draw(pool.size()));
            int n = draw(20) == 0 ? draw(1000) : draw(6);
            switch (draw(12)) {
                case 0: return "word " + a + gap() + " " + n + gap() + ";";
                case 1: return gap() + "drop " + a + ";";
                case 2: return "name " + a + gap() + ";";
                case 3: return "back" + gap() + ";";
                case 4: return gap() + "allow" + gap() + " " + a + " " + b + ";";
                case 5: return "stick " + a + " " + draw(4) + ";";
                case 6: return "set " + draw(4) + gap() + " 00".substring(0, 1 + draw(3)) + n + ";";
                case 7: return "  ";
                case 8: return draw(3) == 0 ? a + ";" : "back;";
                default: return gap() + "type" + gap() + " " + a + gap() + ";";
            }
        }

        private String gap() {
            return draw(4) == 0 ? "   ".substring(draw(3)) : "";
        }

        private void both(String call, Check.Call real, Check.Call due) {
            held(call, answer(real), answer(due));
        }

        private static long answer(Check.Call call) {
            try {
                return call.answer();
            } catch (RuntimeException e) {
                if (e.getClass() == IllegalArgumentException.class) {
                    return ARGUMENT;
                }
                if (e.getClass() == IllegalStateException.class) {
                    return STATE;
                }
                throw e;
            }
        }
    }

    // ---- the model

    private record Pair(String typed, String other) {
    }

    private static final class Entry {
        private final Pair pair;
        private boolean undone;

        Entry(Pair pair, boolean undone) {
            this.pair = pair;
            this.undone = undone;
        }
    }

    private static final class State {
        private final TreeMap<String, Integer> words = new TreeMap<>();
        private final TreeSet<String> names = new TreeSet<>();
        private final LinkedHashMap<Pair, Integer> pairs = new LinkedHashMap<>();
        private final List<Pair> bans = new ArrayList<>();
        private final LinkedHashMap<String, Integer> strange = new LinkedHashMap<>();
        private final List<Entry> log = new ArrayList<>();
        private final Map<Character, Integer> sticks = new HashMap<>();
        private final int[] settings = {4, 2, 3};

        State copy() {
            State copy = new State();
            copy.words.putAll(words);
            copy.names.addAll(names);
            copy.pairs.putAll(pairs);
            copy.bans.addAll(bans);
            copy.strange.putAll(strange);
            for (Entry entry : log) {
                copy.log.add(new Entry(entry.pair, entry.undone));
            }
            copy.sticks.putAll(sticks);
            System.arraycopy(settings, 0, copy.settings, 0, 3);
            return copy;
        }
    }

    private static final class Model {
        private static final String[] ROWS = {"qwertyuiop", "asdfghjkl", "zxcvbnm"};
        private static final String NAMES = "word|drop|name|type|back|allow|stick|set";
        private static final String W = " +[a-z]{1,8}";
        private static final String N = " +[0-9]{1,3}";
        private static final String COMMAND = " *(?:word" + W + N + "|drop" + W + "|name" + W + "|type" + W
                + "|back|allow" + W + W + "|stick" + W + N + "|set" + N + N + ") *;";
        private static final Pattern TEXT = Pattern.compile("(?:" + COMMAND + ")* *");
        private static final Pattern COMMANDS = Pattern.compile("(?:" + COMMAND + ")*+ *+");
        private static final Pattern LETTERS = Pattern.compile("[a-z]*");

        private State s = new State();
        private final List<State> saved = new ArrayList<>();
        private String text = "";
        private boolean running;

        private void save() {
            if (running) {
                return;
            }
            saved.add(s.copy());
            if (saved.size() > 4) {
                saved.remove(0);
            }
        }

        private static void check(boolean fine) {
            if (!fine) {
                throw new IllegalArgumentException();
            }
        }

        private static void checkState(boolean fine) {
            if (!fine) {
                throw new IllegalStateException();
            }
        }

        private static String text(long number) {
            String letters = "";
            check(number > 0);
            for (long rest = number; rest > 0; rest /= 32) {
                check(rest % 32 >= 1 && rest % 32 <= 26 && letters.length() < 8);
                letters = (char) ('a' + rest % 32 - 1) + letters;
            }
            return letters;
        }

        private static long number(String word) {
            return word == null ? -1 : Check.word(word);
        }

        long addWord(long word, int count) {
            String w = text(word);
            check(count >= 1 && count <= 999);
            checkState(s.words.containsKey(w) || s.words.size() < 20);
            save();
            Integer before = s.words.put(w, count);
            return before == null ? 0 : before;
        }

        long dropWord(long word) {
            String w = text(word);
            save();
            Integer before = s.words.remove(w);
            return before == null ? 0 : before;
        }

        long addName(long word) {
            String w = text(word);
            checkState(s.names.contains(w) || s.names.size() < 10);
            save();
            return s.names.add(w) ? 1 : 0;
        }

        long dropName(long word) {
            String w = text(word);
            save();
            return s.names.remove(w) ? 1 : 0;
        }

        long setStick(int letter, int stick) {
            check(letter >= 0 && letter <= 25 && stick >= 0 && stick <= 2);
            save();
            Integer before = s.sticks.put((char) ('a' + letter), stick);
            return before == null ? 0 : before;
        }

        long set(int what, int value) {
            check(what == 0 && value >= 0 && value <= 12 || what == 1 && value >= 1 && value <= 9
                    || what == 2 && value >= 1 && value <= 5);
            save();
            int before = s.settings[what];
            s.settings[what] = value;
            return before;
        }

        long correct(long typed) {
            String t = text(typed);
            save();
            int applies = caseOf(typed);
            if (applies == 0) {
                s.words.put(t, Math.min(999, s.words.get(t) + 1));
            } else if (applies == 4) {
                strange(t);
            } else if (applies != 1) {
                Pair pair = new Pair(t, applies == 2 ? trusted(t).get(0) : suggestions(t).get(0));
                s.log.add(new Entry(pair, false));
                if (s.log.size() > 20) {
                    s.log.remove(0);
                }
                learn(pair);
                return number(pair.other);
            }
            return typed;
        }

        private void learn(Pair pair) {
            if (!s.pairs.containsKey(pair) && s.pairs.size() == 24) {
                int least = Collections.min(s.pairs.values());
                for (Pair old : s.pairs.keySet()) {
                    if (s.pairs.get(old) == least) {
                        s.pairs.remove(old);
                        break;
                    }
                }
            }
            s.pairs.put(pair, Math.min(99, s.pairs.getOrDefault(pair, 0) + 1));
        }

        private void strange(String t) {
            if (!s.strange.containsKey(t) && s.strange.size() == 20) {
                s.strange.remove(s.strange.keySet().iterator().next());
            }
            s.strange.merge(t, 1, Integer::sum);
            if (s.strange.get(t) == s.settings[2] && s.names.size() < 10) {
                s.names.add(t);
                s.strange.remove(t);
            }
        }

        /** Greatest number of times first; a stable sort keeps the order of learning. */
        private List<String> trusted(String t) {
            List<Pair> fitting = new ArrayList<>();
            for (Map.Entry<Pair, Integer> e : s.pairs.entrySet()) {
                Pair p = e.getKey();
                boolean known = s.words.containsKey(p.other) || s.names.contains(p.other);
                if (p.typed.equals(t) && e.getValue() >= s.settings[1] && !s.bans.contains(p) && known) {
                    fitting.add(p);
                }
            }
            fitting.sort((p, q) -> s.pairs.get(q) - s.pairs.get(p));
            List<String> words = new ArrayList<>();
            for (Pair p : fitting) {
                words.add(p.other);
            }
            return words;
        }

        private List<String> suggestions(String t) {
            List<String> words = new ArrayList<>();
            for (String w : s.words.keySet()) {
                if (reason(t, w) == 0) {
                    words.add(w);
                }
            }
            words.sort((v, w) -> {
                int byDistance = Integer.compare(far(t, v, ' '), far(t, w, ' '));
                return byDistance != 0 ? byDistance : s.words.get(w) - s.words.get(v);
            });
            return words;
        }

        private int reason(String t, String w) {
            return !s.words.containsKey(w) ? 1 : s.bans.contains(new Pair(t, w)) ? 2
                    : far(t, w, ' ') > s.settings[0] ? 3 : 0;
        }

        long takeBack() {
            Entry latest = null;
            for (Entry entry : s.log) {
                latest = entry.undone ? latest : entry;
            }
            checkState(latest != null);
            checkState(s.bans.size() < 24 || s.bans.contains(latest.pair));
            int place = s.log.indexOf(latest);
            save();
            s.log.get(place).undone = true;
            if (!s.bans.contains(latest.pair)) {
                s.bans.add(latest.pair);
            }
            s.pairs.remove(latest.pair);
            strange(latest.pair.typed);
            return number(latest.pair.typed);
        }

        long allow(long typed, long word) {
            Pair pair = new Pair(text(typed), text(word));
            save();
            return s.bans.remove(pair) ? 1 : 0;
        }

        long word(String w, int what) {
            switch (what) {
                case 0: return s.words.getOrDefault(w, 0);
                case 1: return s.names.contains(w) ? 1 : 0;
                case 2: return s.strange.getOrDefault(w, 0);
                case 3: return w.length();
                case 4: return new ArrayList<>(s.words.keySet()).indexOf(w);
                case 5: return s.pairs.keySet().stream().filter(p -> p.typed.equals(w)).count();
                default: return s.bans.stream().filter(p -> p.typed.equals(w)).count();
            }
        }

        long listed(boolean names, int index) {
            check(index >= 0);
            List<String> all = new ArrayList<>(names ? s.names : s.words.keySet());
            return index < all.size() ? number(all.get(index)) : -1;
        }

        long pair(int index, int what) {
            check(what <= 2);
            List<Pair> all = new ArrayList<>(s.pairs.keySet());
            if (index >= all.size()) {
                return -1;
            }
            Pair p = all.get(index);
            return what == 0 ? number(p.typed) : what == 1 ? number(p.other) : s.pairs.get(p);
        }

        long logged(int index, int what) {
            check(what <= 2);
            if (index >= s.log.size()) {
                return -1;
            }
            Entry e = s.log.get(s.log.size() - 1 - index);
            return what == 0 ? number(e.pair.typed) : what == 1 ? number(e.pair.other) : e.undone ? 1 : 0;
        }

        long whole(int what) {
            switch (what) {
                case 0: return s.words.size();
                case 1: return s.names.size();
                case 2: return s.pairs.size();
                case 3: return s.bans.size();
                case 4: return s.strange.size();
                case 5: return s.log.size();
                case 6: return s.log.stream().filter(e -> e.undone).count();
                case 10: return s.words.values().stream().mapToInt(count -> count).sum();
                case 11: return text.length();
                default: return s.settings[what - 7];
            }
        }

        long distance(long typed, long word) {
            return far(text(typed), text(word), ' ');
        }

        private int stick(char letter, char dropping) {
            return letter == dropping ? 1 : s.sticks.getOrDefault(letter, 0);
        }

        private int far(String t, String w, char dropping) {
            return far(t, 0, w, 0, dropping, new HashMap<>());
        }

        /** The least cost from the letters of t behind i to those of w behind j. */
        private int far(String t, int i, String w, int j, char dropping, Map<Integer, Integer> known) {
            Integer there = known.get(i * 10 + j);
            if (there != null) {
                return there;
            }
            List<Integer> costs = new ArrayList<>();
            if (i == t.length() && j == w.length()) {
                costs.add(0);
            }
            if (i < t.length()) {
                char letter = t.charAt(i);
                boolean again = i > 0 && t.charAt(i - 1) == letter && stick(letter, dropping) == 2;
                costs.add((again ? 1 : 3) + far(t, i + 1, w, j, dropping, known));
            }
            if (j < w.length()) {
                int cost = stick(w.charAt(j), dropping) == 1 ? 1 : 3;
                costs.add(cost + far(t, i, w, j + 1, dropping, known));
            }
            if (i < t.length() && j < w.length()) {
                costs.add(change(t.charAt(i), w.charAt(j)) + far(t, i + 1, w, j + 1, dropping, known));
            }
            if (i + 1 < t.length() && j + 1 < w.length() && t.charAt(i) == w.charAt(j + 1)
                    && t.charAt(i + 1) == w.charAt(j)) {
                int cost = column(t.charAt(i)) <= 4 != column(t.charAt(i + 1)) <= 4 ? 1 : 3;
                costs.add(cost + far(t, i + 2, w, j + 2, dropping, known));
            }
            known.put(i * 10 + j, Collections.min(costs));
            return Collections.min(costs);
        }

        private static int row(char letter) {
            return ROWS[0].indexOf(letter) >= 0 ? 0 : ROWS[1].indexOf(letter) >= 0 ? 1 : 2;
        }

        private static int column(char letter) {
            return ROWS[row(letter)].indexOf(letter);
        }

        private static int change(char a, char b) {
            char upper = row(a) <= row(b) ? a : b;
            char lower = row(a) <= row(b) ? b : a;
            int right = column(upper) - column(lower);
            boolean beside = row(lower) - row(upper) == 1 ? right == 0 || right == 1
                    : row(lower) == row(upper) && Math.abs(right) == 1;
            return a == b ? 0 : beside ? 2 : 4;
        }

        int caseOf(long typed) {
            String t = text(typed);
            return s.words.containsKey(t) ? 0 : s.names.contains(t) ? 1 : !trusted(t).isEmpty() ? 2
                    : !suggestions(t).isEmpty() ? 3 : 4;
        }

        long suggestion(long typed, int rank) {
            List<String> all = suggestions(text(typed));
            check(rank >= 0);
            return rank < all.size() ? number(all.get(rank)) : -1;
        }

        long reason(long typed, long word) {
            return reason(text(typed), text(word));
        }

        long risk(long word) {
            String w = text(word);
            return s.words.keySet().stream()
                    .filter(v -> !v.equals(w) && far(w, v, ' ') <= s.settings[0]).count();
        }

        long riskiest() {
            String best = null;
            for (String w : s.words.keySet()) {
                if (best == null || risk(number(w)) > risk(number(best))) {
                    best = w;
                }
            }
            return number(best);
        }

        long bestDropping(long typed, long word) {
            TreeMap<Integer, Integer> byDistance = new TreeMap<>();
            for (char letter = 'a'; letter <= 'z'; letter++) {
                int far = far(text(typed), text(word), letter);
                byDistance.putIfAbsent(far, 100 * (letter - 'a') + far);
            }
            return byDistance.firstEntry().getValue();
        }

        long type(int value) {
            check(value >= 0 && value <= 127);
            checkState(text.length() < 150);
            text += (char) value;
            return text.length();
        }

        long clearCommands() {
            int before = text.length();
            text = "";
            return before;
        }

        private int fault() {
            if (TEXT.matcher(text).matches()) {
                return -1;
            }
            Matcher whole = COMMANDS.matcher(text);
            int start = whole.lookingAt() ? whole.end() : 0;
            Matcher letters = LETTERS.matcher(text).region(start, text.length());
            String name = letters.lookingAt() ? letters.group() : "";
            if (!name.matches(NAMES)) {
                return start;
            }
            for (int end = start + name.length() + 1; end <= text.length(); end++) {
                Matcher m = TEXT.matcher(text.substring(0, end));
                if (!m.matches() && !m.hitEnd()) {
                    return end - 1;
                }
            }
            return text.length();
        }

        long runCommands() {
            int fault = fault();
            if (fault >= 0) {
                return -10 - fault;
            }
            save();
            running = true;
            int done = 0;
            try {
                for (String command : text.split(";")) {
                    if (!command.isBlank()) {
                        carryOut(command.trim().split(" +"));
                        done++;
                    }
                }
            } catch (IllegalArgumentException | IllegalStateException e) {
                // the command that would throw ends the run
            }
            running = false;
            return done;
        }

        private void carryOut(String[] p) {
            switch (p[0]) {
                case "word": addWord(number(p[1]), Integer.parseInt(p[2])); break;
                case "drop": dropWord(number(p[1])); break;
                case "name": addName(number(p[1])); break;
                case "type": correct(number(p[1])); break;
                case "back": takeBack(); break;
                case "allow": allow(number(p[1]), number(p[2])); break;
                case "stick": setStick(p[1].charAt(0) - 'a', Integer.parseInt(p[2])); break;
                default: set(Integer.parseInt(p[1]), Integer.parseInt(p[2]));
            }
        }

        long undo() {
            checkState(!saved.isEmpty());
            s = saved.remove(saved.size() - 1);
            return saved.size();
        }

        long digest() {
            List<Long> values = new ArrayList<>();
            values.add((long) saved.size());
            for (int what = 0; what <= 11; what++) {
                values.add(whole(what));
            }
            for (char letter = 'a'; letter <= 'z'; letter++) {
                values.add((long) stick(letter, ' '));
            }
            for (String w : s.words.keySet()) {
                values.add(number(w));
                for (int what = 0; what <= 6; what++) {
                    values.add(word(w, what));
                }
                values.add(risk(number(w)));
            }
            for (String name : s.names) {
                values.add(number(name));
            }
            for (int i = 0; i < 3 * s.pairs.size(); i++) {
                values.add(pair(i / 3, i % 3));
            }
            for (int i = 0; i < 3 * s.log.size(); i++) {
                values.add(logged(i / 3, i % 3));
            }
            long h = 43304;
            for (long value : values) {
                h = 31 * h + value;
            }
            return h;
        }
    }
}
