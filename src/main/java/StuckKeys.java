/**
 * A spell book that learns from a typist. What each call does is told in ../shared/DOC.md, promise by
 * promise; README.md says how to use it.
 */
public final class StuckKeys {
    /** Returned where there is no such value. */
    public static final int NONE = -1;

    private static final int LETTERS = 26;
    private static final int LONGEST_WORD = 8;

    private static final int MAX_WORDS = 20;
    private static final int MAX_COUNT = 999;
    private static final int MAX_TIMES = 99;

    private static final int DROPS = 1;
    private static final int DOUBLES = 2;

    private static final int LIMIT = 0;
    private static final int TRUST = 1;
    private static final int PATIENCE = 2;
    private static final int[] LEAST_SETTINGS = {0, 1, 1};
    private static final int[] GREATEST_SETTINGS = {12, 9, 5};

    private static final int FIRST_HASH = 43304;
    private static final int FAULT_BASE = -10;

    private final Keyboard keyboard = new Keyboard();
    private final Book book = new Book();
    private final Speller speller = new Speller(keyboard, book);
    private final History history = new History();
    private final Script script = new Script();

    public StuckKeys() {
    }

    // ---- the book

    public int addWord(long word, int count) throws IllegalArgumentException, IllegalStateException {
        requireWord(word);
        require(isCount(count));
        requireState(book.hasRoomForWord(word));
        history.save(book);
        return book.putWord(word, count);
    }

    public int dropWord(long word) throws IllegalArgumentException {
        requireWord(word);
        history.save(book);
        return book.removeWord(word);
    }

    public int addName(long word) throws IllegalArgumentException, IllegalStateException {
        requireWord(word);
        requireState(book.hasRoomForName(word));
        history.save(book);
        return book.putName(word);
    }

    public int dropName(long word) throws IllegalArgumentException {
        requireWord(word);
        history.save(book);
        return book.removeName(word);
    }

    public int setStick(int letter, int stick) throws IllegalArgumentException {
        require(isLetter(letter) && isStick(stick));
        history.save(book);
        return book.putStick(letter, stick);
    }

    public int set(int what, int value) throws IllegalArgumentException {
        require(isSetting(what, value));
        history.save(book);
        return book.putSetting(what, value);
    }

    // ---- typing

    public long correct(long typed) throws IllegalArgumentException {
        requireWord(typed);
        history.save(book);
        return speller.takeTyped(typed);
    }

    public long takeBack() throws IllegalStateException {
        requireState(book.canTakeBack());
        history.save(book);
        return book.takeBackLatest();
    }

    public int allow(long typed, long word) throws IllegalArgumentException {
        requireWord(typed);
        requireWord(word);
        history.save(book);
        return book.removeBan(typed, word);
    }

    // ---- values

    public int word(long word, int what) throws IllegalArgumentException {
        requireWord(word);
        require(what >= 0 && what <= 6);
        return book.valueOfWord(word, what);
    }

    public long listed(boolean names, int index) throws IllegalArgumentException {
        require(index >= 0);
        return names ? book.names.firstAt(index) : book.words.firstAt(index);
    }

    public long pair(int index, int what) throws IllegalArgumentException {
        require(index >= 0 && what >= 0 && what <= 2);
        return book.pairs.valueAt(index, what);
    }

    public long logged(int index, int what) throws IllegalArgumentException {
        require(index >= 0 && what >= 0 && what <= 2);
        return book.log.valueAt(book.log.size() - 1 - index, what);
    }

    public int key(int letter, int what) throws IllegalArgumentException {
        require(isLetter(letter) && what >= 0 && what <= 4);
        switch (what) {
            case 0: return keyboard.rowOf(letter);
            case 1: return keyboard.columnOf(letter);
            case 2: return keyboard.handOf(letter);
            case 3: return book.stickOf(letter);
            default: return keyboard.neighborsOf(letter);
        }
    }

    public int whole(int what) throws IllegalArgumentException {
        require(what >= 0 && what <= 11);
        return valueOfWhole(what);
    }

    public int distance(long typed, long word) throws IllegalArgumentException {
        requireWord(typed);
        requireWord(word);
        return speller.distanceBetween(typed, word);
    }

    // ---- what if, which changes nothing

    public int caseOf(long typed) throws IllegalArgumentException {
        requireWord(typed);
        return speller.caseFor(typed);
    }

    public long suggestion(long typed, int rank) throws IllegalArgumentException {
        requireWord(typed);
        require(rank >= 0);
        return speller.suggestionAt(typed, rank);
    }

    public int reason(long typed, long word) throws IllegalArgumentException {
        requireWord(typed);
        requireWord(word);
        return speller.reasonAgainst(typed, word);
    }

    public int risk(long word) throws IllegalArgumentException {
        requireWord(word);
        return speller.riskOf(word);
    }

    public long riskiest() {
        return speller.wordOfGreatestRisk();
    }

    public int bestDropping(long typed, long word) throws IllegalArgumentException {
        requireWord(typed);
        requireWord(word);
        return speller.bestDroppingKey(typed, word);
    }

    // ---- command text, undo and checksum

    public int type(int value) throws IllegalArgumentException, IllegalStateException {
        require(value >= 0 && value <= 127);
        requireState(!script.isFull());
        return script.append(value);
    }

    public int clearCommands() {
        return script.makeEmpty();
    }

    public int runCommands() {
        int fault = script.faultOfText();
        if (fault != NONE) {
            return FAULT_BASE - fault;
        }
        history.save(book);
        script.rewind();
        for (int done = 0; done < Script.ROOM; done++) {
            if (!script.readCommand() || !carryOut()) {
                return done;
            }
        }
        return Script.ROOM;
    }

    public int undo() throws IllegalStateException {
        requireState(history.size() > 0);
        return history.restore(book);
    }

    public long digest() {
        long hash = mix(FIRST_HASH, history.size());
        for (int what = 0; what <= 11; what++) {
            hash = mix(hash, valueOfWhole(what));
        }
        for (int letter = 0; letter < LETTERS; letter++) {
            hash = mix(hash, book.stickOf(letter));
        }
        hash = mixWords(hash);
        for (int i = 0; i < book.names.size(); i++) {
            hash = mix(hash, book.names.firstAt(i));
        }
        for (int i = 0; i < book.pairs.size(); i++) {
            hash = mixRow(hash, book.pairs, i);
        }
        for (int i = book.log.size() - 1; i >= 0; i--) {
            hash = mixRow(hash, book.log, i);
        }
        return hash;
    }

    private long mixWords(long start) {
        long hash = start;
        for (int i = 0; i < book.words.size(); i++) {
            long word = book.words.firstAt(i);
            hash = mix(hash, word);
            for (int what = 0; what <= 6; what++) {
                hash = mix(hash, book.valueOfWord(word, what));
            }
            hash = mix(hash, speller.riskOf(word));
        }
        return hash;
    }

    private static long mixRow(long start, Rows rows, int index) {
        long hash = start;
        for (int what = 0; what <= 2; what++) {
            hash = mix(hash, rows.valueAt(index, what));
        }
        return hash;
    }

    private static long mix(long hash, long value) {
        return 31 * hash + value;
    }

    private int valueOfWhole(int what) {
        return what == 11 ? script.length() : book.valueOfBook(what);
    }

    /** Carries out the command that was read last, unless the call of that name would throw. */
    private boolean carryOut() {
        Command command = script.command;
        if (command == null) {
            return false;
        }
        switch (command) {
            case WORD: return carryOutWord(script.firstWord, script.firstNumber);
            case NAME: return carryOutName(script.firstWord);
            case BACK: return carryOutBack();
            case STICK: return carryOutStick(script.firstWord, script.firstNumber);
            case SET: return carryOutSet(script.firstNumber, script.secondNumber);
            case DROP:
                book.removeWord(script.firstWord);
                return true;
            case TYPE:
                speller.takeTyped(script.firstWord);
                return true;
            case ALLOW:
                book.removeBan(script.firstWord, script.secondWord);
                return true;
            default:
                return false;
        }
    }

    private boolean carryOutWord(long word, int count) {
        if (!isCount(count) || !book.hasRoomForWord(word)) {
            return false;
        }
        book.putWord(word, count);
        return true;
    }

    private boolean carryOutName(long word) {
        if (!book.hasRoomForName(word)) {
            return false;
        }
        book.putName(word);
        return true;
    }

    private boolean carryOutBack() {
        if (!book.canTakeBack()) {
            return false;
        }
        book.takeBackLatest();
        return true;
    }

    private boolean carryOutStick(long word, int stick) {
        int letter = Words.firstLetterOf(word);
        if (!isLetter(letter) || !isStick(stick)) {
            return false;
        }
        book.putStick(letter, stick);
        return true;
    }

    private boolean carryOutSet(int what, int value) {
        if (!isSetting(what, value)) {
            return false;
        }
        book.putSetting(what, value);
        return true;
    }

    private static void requireWord(long word) throws IllegalArgumentException {
        if (!Words.isWord(word)) {
            throw new IllegalArgumentException("no word");
        }
    }

    private static void require(boolean inRange) throws IllegalArgumentException {
        if (!inRange) {
            throw new IllegalArgumentException("out of range");
        }
    }

    private static void requireState(boolean possible) throws IllegalStateException {
        if (!possible) {
            throw new IllegalStateException("not possible now");
        }
    }

    private static boolean isCount(int count) {
        return count >= 1 && count <= MAX_COUNT;
    }

    private static boolean isLetter(int letter) {
        return letter >= 0 && letter < LETTERS;
    }

    private static boolean isStick(int stick) {
        return stick >= 0 && stick <= DOUBLES;
    }

    private static boolean isSetting(int what, int value) {
        if (what < 0 || what >= LEAST_SETTINGS.length || what >= GREATEST_SETTINGS.length) {
            return false;
        }
        return value >= LEAST_SETTINGS[what] && value <= GREATEST_SETTINGS[what];
    }

    /** Words as numbers: five bits for each letter, the last letter in the lowest ones. */
    private static final class Words {
        private static final int BITS = 5;
        private static final int MASK = 31;

        static boolean isWord(long word) {
            if (word <= 0 || word >> (BITS * LONGEST_WORD) != 0) {
                return false;
            }
            int length = lengthOf(word);
            for (int i = 0; i < length; i++) {
                long sign = (word >> (BITS * i)) & MASK;
                if (sign < 1 || sign > LETTERS) {
                    return false;
                }
            }
            return true;
        }

        static int lengthOf(long word) {
            for (int length = 0; length < LONGEST_WORD; length++) {
                if (word >> (BITS * length) == 0) {
                    return length;
                }
            }
            return LONGEST_WORD;
        }

        static int firstLetterOf(long word) {
            return letterFromEnd(word, lengthOf(word) - 1);
        }

        /** The letter (0 for a) that has so many letters behind it. */
        static int letterFromEnd(long word, int behind) {
            return (int) ((word >> (BITS * behind)) & MASK) - 1;
        }

        static long withLetter(long word, int letter) {
            return (word << BITS) | (letter + 1);
        }

        /** With their first letters aligned, numbers are in the order of the dictionary. */
        static long aligned(long word) {
            long aligned = word;
            for (int i = 1; i < LONGEST_WORD && aligned >> (BITS * (LONGEST_WORD - 1)) == 0; i++) {
                aligned <<= BITS;
            }
            return aligned;
        }
    }

    /** Where the keys lie, and what it costs to take one for another. */
    private static final class Keyboard {
        private static final int FIRST_RIGHT_COLUMN = 5;

        private final int[] rows = new int[LETTERS];
        private final int[] columns = new int[LETTERS];
        /** One bit for each key that is beside this one. */
        private final int[] beside = new int[LETTERS];

        Keyboard() {
            layRow(0, "qwertyuiop");
            layRow(1, "asdfghjkl");
            layRow(2, "zxcvbnm");
            for (int a = 0; a < LETTERS; a++) {
                for (int b = 0; b < LETTERS; b++) {
                    if (touch(a, b)) {
                        beside[a] |= 1 << b;
                    }
                }
            }
        }

        private void layRow(int row, String keys) {
            for (int column = 0; column < keys.length(); column++) {
                int letter = keys.charAt(column) - 'a';
                if (letter >= 0 && letter < LETTERS) {
                    rows[letter] = row;
                    columns[letter] = column;
                }
            }
        }

        private boolean touch(int a, int b) {
            int down = rowOf(b) - rowOf(a);
            int right = columnOf(b) - columnOf(a);
            switch (down) {
                case 0: return right == 1 || right == -1;
                case 1: return right == 0 || right == -1;
                case -1: return right == 0 || right == 1;
                default: return false;
            }
        }

        int rowOf(int letter) {
            return letter >= 0 && letter < LETTERS ? rows[letter] : 0;
        }

        int columnOf(int letter) {
            return letter >= 0 && letter < LETTERS ? columns[letter] : 0;
        }

        int handOf(int letter) {
            return letter >= 0 && letter < LETTERS && columns[letter] >= FIRST_RIGHT_COLUMN ? 1 : 0;
        }

        int neighborsOf(int letter) {
            return letter >= 0 && letter < LETTERS ? Integer.bitCount(beside[letter]) : 0;
        }

        int costOfChange(int from, int to) {
            if (from == to) {
                return 0;
            }
            boolean near = from >= 0 && from < LETTERS && (beside[from] >> to & 1) == 1;
            return near ? 2 : 4;
        }
    }

    /** Rows of two words and a number, in an order that their user keeps. */
    private static final class Rows {
        private final long[] firsts;
        private final long[] seconds;
        private final int[] numbers;
        private int size;

        Rows(int room) {
            int length = Math.max(room, 0);
            firsts = new long[length];
            seconds = new long[length];
            numbers = new int[length];
        }

        int size() {
            return size;
        }

        boolean isFull() {
            return size >= firsts.length;
        }

        private boolean has(int index) {
            return index >= 0 && index < size;
        }

        long firstAt(int index) {
            return has(index) ? firsts[index] : NONE;
        }

        long secondAt(int index) {
            return has(index) ? seconds[index] : NONE;
        }

        int numberAt(int index) {
            return has(index) ? numbers[index] : NONE;
        }

        long valueAt(int index, int what) {
            switch (what) {
                case 0: return firstAt(index);
                case 1: return secondAt(index);
                default: return numberAt(index);
            }
        }

        void putNumber(int index, int number) {
            if (has(index)) {
                numbers[index] = number;
            }
        }

        int find(long first, long second) {
            for (int i = 0; i < size; i++) {
                if (firsts[i] == first && seconds[i] == second) {
                    return i;
                }
            }
            return NONE;
        }

        int countOfFirst(long first) {
            int count = 0;
            for (int i = 0; i < size; i++) {
                if (firsts[i] == first) {
                    count++;
                }
            }
            return count;
        }

        int sumOfNumbers() {
            int sum = 0;
            for (int i = 0; i < size; i++) {
                sum += numbers[i];
            }
            return sum;
        }

        /** The first of the rows with the least number. */
        int indexOfLeast() {
            int least = 0;
            for (int i = 1; i < size; i++) {
                if (numbers[i] < numbers[least]) {
                    least = i;
                }
            }
            return least;
        }

        void insertInOrder(long first, int number) {
            long aligned = Words.aligned(first);
            int place = 0;
            for (int i = 0; i < size; i++) {
                if (Words.aligned(firsts[i]) < aligned) {
                    place++;
                }
            }
            insert(place, first, 0, number);
        }

        void append(long first, long second, int number) {
            insert(size, first, second, number);
        }

        private void insert(int place, long first, long second, int number) {
            if (size >= firsts.length || place < 0 || place > size) {
                return;
            }
            for (int i = size; i > place; i--) {
                firsts[i] = firsts[i - 1];
                seconds[i] = seconds[i - 1];
                numbers[i] = numbers[i - 1];
            }
            firsts[place] = first;
            seconds[place] = second;
            numbers[place] = number;
            size++;
        }

        void remove(int index) {
            if (!has(index)) {
                return;
            }
            for (int i = index + 1; i < size; i++) {
                firsts[i - 1] = firsts[i];
                seconds[i - 1] = seconds[i];
                numbers[i - 1] = numbers[i];
            }
            size--;
        }

        void copyFrom(Rows other) {
            size = Math.min(other.size, firsts.length);
            for (int i = 0; i < size; i++) {
                firsts[i] = other.firsts[i];
                seconds[i] = other.seconds[i];
                numbers[i] = other.numbers[i];
            }
        }
    }

    /** The whole state but the command text: what an undo brings back. */
    private static final class Book {
        private static final int MAX_NAMES = 10;
        private static final int MAX_PAIRS = 24;
        private static final int MAX_BANS = 24;
        private static final int MAX_STRANGE = 20;
        private static final int MAX_LOG = 20;

        /** Word and count, in the order of the dictionary. */
        private final Rows words = new Rows(MAX_WORDS);
        private final Rows names = new Rows(MAX_NAMES);
        /** Typed word, other word and times, in the order in which they were learned. */
        private final Rows pairs = new Rows(MAX_PAIRS);
        private final Rows bans = new Rows(MAX_BANS);
        /** Strange word and times, in the order in which they came. */
        private final Rows strange = new Rows(MAX_STRANGE);
        /** Typed word, other word and whether it is undone, the latest one last. */
        private final Rows log = new Rows(MAX_LOG);
        private final int[] sticks = new int[LETTERS];
        private final int[] settings = {4, 2, 3};

        void copyFrom(Book other) {
            words.copyFrom(other.words);
            names.copyFrom(other.names);
            pairs.copyFrom(other.pairs);
            bans.copyFrom(other.bans);
            strange.copyFrom(other.strange);
            log.copyFrom(other.log);
            for (int i = 0; i < sticks.length && i < other.sticks.length; i++) {
                sticks[i] = other.sticks[i];
            }
            for (int i = 0; i < settings.length && i < other.settings.length; i++) {
                settings[i] = other.settings[i];
            }
        }

        boolean hasWord(long word) {
            return words.find(word, 0) != NONE;
        }

        boolean hasName(long word) {
            return names.find(word, 0) != NONE;
        }

        boolean isBanned(long typed, long other) {
            return bans.find(typed, other) != NONE;
        }

        boolean hasRoomForWord(long word) {
            return !words.isFull() || hasWord(word);
        }

        boolean hasRoomForName(long word) {
            return !names.isFull() || hasName(word);
        }

        int countOf(long word) {
            return Math.max(words.numberAt(words.find(word, 0)), 0);
        }

        int putWord(long word, int count) {
            int before = countOf(word);
            if (hasWord(word)) {
                words.putNumber(words.find(word, 0), count);
            } else {
                words.insertInOrder(word, count);
            }
            return before;
        }

        int removeWord(long word) {
            int before = countOf(word);
            words.remove(words.find(word, 0));
            return before;
        }

        int putName(long word) {
            if (hasName(word)) {
                return 0;
            }
            names.insertInOrder(word, 0);
            return 1;
        }

        int removeName(long word) {
            int before = hasName(word) ? 1 : 0;
            names.remove(names.find(word, 0));
            return before;
        }

        int removeBan(long typed, long other) {
            int before = isBanned(typed, other) ? 1 : 0;
            bans.remove(bans.find(typed, other));
            return before;
        }

        int stickOf(int letter) {
            return letter >= 0 && letter < sticks.length ? sticks[letter] : 0;
        }

        int putStick(int letter, int stick) {
            int before = stickOf(letter);
            if (letter >= 0 && letter < sticks.length) {
                sticks[letter] = stick;
            }
            return before;
        }

        int settingOf(int what) {
            return what >= 0 && what < settings.length ? settings[what] : 0;
        }

        int putSetting(int what, int value) {
            int before = settingOf(what);
            if (what >= 0 && what < settings.length) {
                settings[what] = value;
            }
            return before;
        }

        void raiseCount(long word) {
            int index = words.find(word, 0);
            words.putNumber(index, Math.min(words.numberAt(index) + 1, MAX_COUNT));
        }

        void recordCorrection(long typed, long other) {
            if (log.isFull()) {
                log.remove(0);
            }
            log.append(typed, other, 0);
            learn(typed, other);
        }

        private void learn(long typed, long other) {
            int index = pairs.find(typed, other);
            if (index != NONE) {
                pairs.putNumber(index, Math.min(pairs.numberAt(index) + 1, MAX_TIMES));
                return;
            }
            if (pairs.isFull()) {
                pairs.remove(pairs.indexOfLeast());
            }
            pairs.append(typed, other, 1);
        }

        void countStrange(long typed) {
            int index = strange.find(typed, 0);
            if (index == NONE) {
                if (strange.isFull()) {
                    strange.remove(0);
                }
                strange.append(typed, 0, 0);
                index = strange.size() - 1;
            }
            int times = strange.numberAt(index) + 1;
            strange.putNumber(index, times);
            if (times == settingOf(PATIENCE) && !names.isFull()) {
                if (!hasName(typed)) {
                    names.insertInOrder(typed, 0);
                }
                strange.remove(index);
            }
        }

        private int indexOfLatestCorrection() {
            for (int i = log.size() - 1; i >= 0; i--) {
                if (log.numberAt(i) == 0) {
                    return i;
                }
            }
            return NONE;
        }

        boolean canTakeBack() {
            int index = indexOfLatestCorrection();
            if (index == NONE) {
                return false;
            }
            return !bans.isFull() || isBanned(log.firstAt(index), log.secondAt(index));
        }

        long takeBackLatest() {
            int index = indexOfLatestCorrection();
            long typed = log.firstAt(index);
            long other = log.secondAt(index);
            log.putNumber(index, 1);
            if (!isBanned(typed, other)) {
                bans.append(typed, other, 0);
            }
            pairs.remove(pairs.find(typed, other));
            countStrange(typed);
            return typed;
        }

        int valueOfWord(long word, int what) {
            switch (what) {
                case 0: return countOf(word);
                case 1: return hasName(word) ? 1 : 0;
                case 2: return Math.max(strange.numberAt(strange.find(word, 0)), 0);
                case 3: return Words.lengthOf(word);
                case 4: return words.find(word, 0);
                case 5: return pairs.countOfFirst(word);
                default: return bans.countOfFirst(word);
            }
        }

        int valueOfBook(int what) {
            switch (what) {
                case 0: return words.size();
                case 1: return names.size();
                case 2: return pairs.size();
                case 3: return bans.size();
                case 4: return strange.size();
                case 5: return log.size();
                case 6: return log.sumOfNumbers();
                case 7: return settingOf(LIMIT);
                case 8: return settingOf(TRUST);
                case 9: return settingOf(PATIENCE);
                default: return words.sumOfNumbers();
            }
        }
    }

    /** The least cost with which a typed word becomes another one, with the sticks of a book. */
    private static final class Distances {
        private static final int SIDE = LONGEST_WORD + 1;
        private static final int FAR = 1000;

        private final Keyboard keyboard;
        private final Book book;
        private final int[] typedLetters = new int[LONGEST_WORD];
        private final int[] wordLetters = new int[LONGEST_WORD];
        /** What it costs that a typed letter goes, and that a letter of the word comes. */
        private final int[] goingCosts = new int[LONGEST_WORD];
        private final int[] comingCosts = new int[LONGEST_WORD];
        /** At SIDE * i + j: the cost from the first i typed letters to the first j of the word. */
        private final int[] costs = new int[SIDE * SIDE];

        Distances(Keyboard keyboard, Book book) {
            this.keyboard = keyboard;
            this.book = book;
        }

        /** The distance if the key of the letter dropping dropped letters; with NONE as the keys stick. */
        int between(long typed, long word, int dropping) {
            int rows = spell(typed, typedLetters);
            int columns = spell(word, wordLetters);
            priceGoing(rows, dropping);
            priceComing(columns, dropping);
            for (int i = 0; i <= rows && i < SIDE; i++) {
                for (int j = 0; j <= columns && j < SIDE; j++) {
                    costs[SIDE * i + j] = leastCost(i, j);
                }
            }
            return costAt(rows, columns);
        }

        private static int spell(long word, int[] letters) {
            int length = Math.min(Words.lengthOf(word), letters.length);
            for (int i = 0; i < length; i++) {
                letters[i] = Words.letterFromEnd(word, length - 1 - i);
            }
            return length;
        }

        private void priceGoing(int length, int dropping) {
            for (int i = 0; i < length && i < goingCosts.length; i++) {
                int letter = at(typedLetters, i);
                boolean doubles = letter != dropping && book.stickOf(letter) == DOUBLES;
                boolean repeated = i > 0 && at(typedLetters, i - 1) == letter;
                goingCosts[i] = doubles && repeated ? 1 : 3;
            }
        }

        private void priceComing(int length, int dropping) {
            for (int j = 0; j < length && j < comingCosts.length; j++) {
                int letter = at(wordLetters, j);
                boolean drops = letter == dropping || book.stickOf(letter) == DROPS;
                comingCosts[j] = drops ? 1 : 3;
            }
        }

        private int leastCost(int i, int j) {
            int typed = at(typedLetters, i - 1);
            int wanted = at(wordLetters, j - 1);
            int least = i == 0 && j == 0 ? 0 : FAR;
            if (i > 0) {
                least = Math.min(least, costAt(i - 1, j) + at(goingCosts, i - 1));
            }
            if (j > 0) {
                least = Math.min(least, costAt(i, j - 1) + at(comingCosts, j - 1));
            }
            if (i > 0 && j > 0) {
                least = Math.min(least, costAt(i - 1, j - 1) + keyboard.costOfChange(typed, wanted));
            }
            if (i > 1 && j > 1) {
                int typedAhead = at(typedLetters, i - 2);
                if (typedAhead == wanted && typed == at(wordLetters, j - 2)) {
                    int swap = keyboard.handOf(typedAhead) != keyboard.handOf(typed) ? 1 : 3;
                    least = Math.min(least, costAt(i - 2, j - 2) + swap);
                }
            }
            return least;
        }

        private static int at(int[] row, int index) {
            return index >= 0 && index < row.length ? row[index] : 0;
        }

        private int costAt(int i, int j) {
            return i >= 0 && i < SIDE && j >= 0 && j < SIDE ? costs[SIDE * i + j] : FAR;
        }
    }

    /** What a typed word becomes, and what it could become. */
    private static final class Speller {
        private final Book book;
        private final Distances distances;
        /** For each word of the book how late it is suggested, or NONE if it is no suggestion. */
        private final int[] lateness = new int[MAX_WORDS];

        Speller(Keyboard keyboard, Book book) {
            this.book = book;
            this.distances = new Distances(keyboard, book);
        }

        int distanceBetween(long typed, long word) {
            return distances.between(typed, word, NONE);
        }

        int caseFor(long typed) {
            if (book.hasWord(typed)) {
                return 0;
            }
            if (book.hasName(typed)) {
                return 1;
            }
            if (trustedWord(typed) != NONE) {
                return 2;
            }
            return suggestionAt(typed, 0) != NONE ? 3 : 4;
        }

        /** Returns what the typed word becomes. */
        long takeTyped(long typed) {
            if (book.hasWord(typed)) {
                book.raiseCount(typed);
                return typed;
            }
            if (book.hasName(typed)) {
                return typed;
            }
            long other = trustedWord(typed);
            if (other == NONE) {
                other = suggestionAt(typed, 0);
            }
            if (other == NONE) {
                book.countStrange(typed);
                return typed;
            }
            book.recordCorrection(typed, other);
            return other;
        }

        /** The other word of the best pair that is trusted; NONE if no pair is. */
        private long trustedWord(long typed) {
            int most = book.settingOf(TRUST) - 1;
            long word = NONE;
            for (int i = 0; i < book.pairs.size(); i++) {
                if (book.pairs.numberAt(i) > most && isUsable(typed, i)) {
                    most = book.pairs.numberAt(i);
                    word = book.pairs.secondAt(i);
                }
            }
            return word;
        }

        private boolean isUsable(long typed, int index) {
            long other = book.pairs.secondAt(index);
            return book.pairs.firstAt(index) == typed && !book.isBanned(typed, other)
                    && (book.hasWord(other) || book.hasName(other));
        }

        long suggestionAt(long typed, int rank) {
            int size = Math.min(book.words.size(), lateness.length);
            for (int i = 0; i < size; i++) {
                long word = book.words.firstAt(i);
                int far = distances.between(typed, word, NONE);
                boolean fits = far <= book.settingOf(LIMIT) && !book.isBanned(typed, word);
                // greater counts make a word earlier, but never by a whole step of distance
                lateness[i] = fits ? far * (MAX_COUNT + 1) + MAX_COUNT - book.words.numberAt(i) : NONE;
            }
            for (int i = 0; i < size; i++) {
                if (lateness[i] != NONE && countOfEarlier(i, size) == rank) {
                    return book.words.firstAt(i);
                }
            }
            return NONE;
        }

        private int countOfEarlier(int index, int size) {
            int late = index >= 0 && index < lateness.length ? lateness[index] : NONE;
            int count = 0;
            for (int i = 0; i < size && i < lateness.length; i++) {
                boolean earlier = lateness[i] < late || (lateness[i] == late && i < index);
                if (lateness[i] != NONE && earlier) {
                    count++;
                }
            }
            return count;
        }

        int reasonAgainst(long typed, long word) {
            if (!book.hasWord(word)) {
                return 1;
            }
            if (book.isBanned(typed, word)) {
                return 2;
            }
            return isNear(typed, word) ? 0 : 3;
        }

        private boolean isNear(long typed, long word) {
            return distances.between(typed, word, NONE) <= book.settingOf(LIMIT);
        }

        int riskOf(long word) {
            int count = 0;
            for (int i = 0; i < book.words.size(); i++) {
                long other = book.words.firstAt(i);
                if (other != word && isNear(word, other)) {
                    count++;
                }
            }
            return count;
        }

        long wordOfGreatestRisk() {
            int most = NONE;
            long word = NONE;
            for (int i = 0; i < book.words.size(); i++) {
                int count = riskOf(book.words.firstAt(i));
                if (count > most) {
                    most = count;
                    word = book.words.firstAt(i);
                }
            }
            return word;
        }

        int bestDroppingKey(long typed, long word) {
            int best = 0;
            int least = distances.between(typed, word, 0);
            for (int letter = 1; letter < LETTERS; letter++) {
                int far = distances.between(typed, word, letter);
                if (far < least) {
                    least = far;
                    best = letter;
                }
            }
            return 100 * best + least;
        }
    }

    /** The states of the book that an undo can bring back, the latest one last. */
    private static final class History {
        private static final int DEPTH = 4;

        private final Book[] saved = new Book[DEPTH];
        private int size;

        History() {
            for (int i = 0; i < DEPTH; i++) {
                saved[i] = new Book();
            }
        }

        int size() {
            return size;
        }

        void save(Book book) {
            if (size >= DEPTH) {
                forgetOldest();
            }
            Book free = savedAt(size);
            if (free != null) {
                free.copyFrom(book);
                size++;
            }
        }

        /** The forgotten book goes to the end, so that no new one need be made. */
        private void forgetOldest() {
            Book oldest = saved[0];
            for (int i = 1; i < DEPTH; i++) {
                saved[i - 1] = saved[i];
            }
            saved[DEPTH - 1] = oldest;
            size = DEPTH - 1;
        }

        int restore(Book book) {
            Book latest = savedAt(size - 1);
            if (latest != null) {
                book.copyFrom(latest);
                size--;
            }
            return size;
        }

        private Book savedAt(int index) {
            return index >= 0 && index < DEPTH ? saved[index] : null;
        }
    }

    /** The commands of a text, with how many words and then how many numbers follow. */
    private enum Command {
        WORD("word", 1, 1),
        DROP("drop", 1, 0),
        NAME("name", 1, 0),
        TYPE("type", 1, 0),
        BACK("back", 0, 0),
        ALLOW("allow", 2, 0),
        STICK("stick", 1, 1),
        SET("set", 0, 2);

        private final String text;
        private final int words;
        private final int numbers;

        Command(String text, int words, int numbers) {
            this.text = text;
            this.words = words;
            this.numbers = numbers;
        }
    }

    /** The command text, read command by command. */
    private static final class Script {
        static final int ROOM = 150;
        private static final int MOST_DIGITS = 3;
        private static final Command[] COMMANDS = Command.values();

        private final int[] bytes = new int[ROOM];
        private int length;
        private int position;
        private int fault = NONE;
        private Command command;
        private long firstWord;
        private long secondWord;
        private int firstNumber;
        private int secondNumber;

        int length() {
            return length;
        }

        boolean isFull() {
            return length >= ROOM;
        }

        int append(int value) {
            if (length >= 0 && length < ROOM) {
                bytes[length] = value;
                length++;
            }
            return length;
        }

        int makeEmpty() {
            int before = length;
            length = 0;
            return before;
        }

        void rewind() {
            position = 0;
            fault = NONE;
        }

        /** The index of the first byte that cannot stand, the length if the text ends too soon, or NONE. */
        int faultOfText() {
            rewind();
            for (int i = 0; i < ROOM; i++) {
                if (!readCommand()) {
                    break;
                }
            }
            return fault;
        }

        /** Reads the next command; false if there is none, or if it has a fault. */
        boolean readCommand() {
            skipSpaces();
            if (position >= length) {
                return false;
            }
            command = readCommandWord();
            if (command == null) {
                return false;
            }
            firstWord = command.words > 0 ? readWord() : NONE;
            secondWord = command.words > 1 ? readWord() : NONE;
            firstNumber = command.numbers > 0 ? readNumber() : NONE;
            secondNumber = command.numbers > 1 ? readNumber() : NONE;
            readSemicolon();
            return fault == NONE;
        }

        private Command readCommandWord() {
            int start = position;
            for (int i = 0; i < ROOM && isLetterNext(); i++) {
                position++;
            }
            for (int i = 0; i < COMMANDS.length; i++) {
                if (isWritten(COMMANDS[i].text, start, position)) {
                    return COMMANDS[i];
                }
            }
            fault = start;
            return null;
        }

        private boolean isWritten(String text, int from, int to) {
            if (text.length() != to - from) {
                return false;
            }
            for (int i = 0; i < text.length(); i++) {
                if (text.charAt(i) != byteAt(from + i)) {
                    return false;
                }
            }
            return true;
        }

        private long readWord() {
            readGap();
            long word = 0;
            for (int i = 0; i < LONGEST_WORD && isLetterNext(); i++) {
                word = Words.withLetter(word, byteAt(position) - 'a');
                position++;
            }
            if (word == 0 || isLetterNext()) {
                failHere();
            }
            return word;
        }

        private int readNumber() {
            readGap();
            int start = position;
            int number = 0;
            for (int i = 0; i < MOST_DIGITS && isDigitNext(); i++) {
                number = 10 * number + byteAt(position) - '0';
                position++;
            }
            if (position == start || isDigitNext()) {
                failHere();
            }
            return number;
        }

        /** At least one space stands in front of an argument. */
        private void readGap() {
            if (byteAt(position) != ' ') {
                failHere();
            }
            skipSpaces();
        }

        private void readSemicolon() {
            skipSpaces();
            if (byteAt(position) != ';') {
                failHere();
            }
            position++;
        }

        /** Only the first fault counts; what is read behind it is not used. */
        private void failHere() {
            if (fault == NONE) {
                fault = position;
            }
        }

        private void skipSpaces() {
            for (int i = 0; i < ROOM && byteAt(position) == ' '; i++) {
                position++;
            }
        }

        private boolean isLetterNext() {
            return byteAt(position) >= 'a' && byteAt(position) <= 'z';
        }

        private boolean isDigitNext() {
            return byteAt(position) >= '0' && byteAt(position) <= '9';
        }

        private int byteAt(int index) {
            return index >= 0 && index < length && index < ROOM ? bytes[index] : NONE;
        }
    }
}
