/**
 * A ring of words between two clocks whose pointers cross in gray code.
 * The promises are numbered in ../shared/DOC.md.
 */
public final class GrayPointers {
    /** There is no such side or place. */
    public static final int UNKNOWN = -1;
    /** Another argument is out of range. */
    public static final int BAD_VALUE = -2;
    /** There is no more room. */
    public static final int FULL = -3;
    /** This is not possible. */
    public static final int NOT_POSSIBLE = -4;
    /** There is no such thing; not an error. */
    public static final int NONE = -5;

    private static final int WRITER = 0;
    private static final int READER = 1;

    private static final int MOST_K = 4;
    private static final int MOST_DEPTH = 16;
    private static final int MOST_PERIOD = 50;
    private static final int MOST_PHASE = 49;
    private static final int MOST_SETTING = 15;
    private static final int MOST_WORD = 99;
    private static final int MOST_WAITING = 20;
    /** A power of two, so that a mask finds the row's index. */
    private static final int MOST_CAME = 16;
    private static final int MOST_PASS = 500;
    private static final int MOST_TIME = 1000000;
    private static final int MOST_TIMES_TO_DONE = 5000;
    private static final int MOST_STATES = 4;
    private static final int MOST_SIGNS = 60;
    /** A part has at least one sign, and a comma stands between two. */
    private static final int MOST_PARTS = 30;

    /** What a word has more among those that were taken, if it came wrong. */
    private static final int CAME_WRONG = 100;
    private static final int FAULT_BASE = -100;
    private static final int NO_FAULT = -1;
    private static final int NO_DIGIT = -1;
    private static final int NO_NUMBER = -1;
    /** Stands in a text's part in place of the word, where times pass. */
    private static final int NO_WORD = -1;
    /** The bits that a torn sample takes from the code behind it. */
    private static final int ODD_BITS = 0xAA;

    private final State state = new State();
    /** Made once, and used by each call that has to try what would happen. */
    private final State trial = new State();
    private final State snapshot = new State();
    private boolean snapshotTaken;
    private final History history = new History();
    private final Text text = new Text();

    public GrayPointers() {
    }

    // ---- the ring

    public int build(int k, boolean gray) {
        if (!isWithin(k, 1, MOST_K)) {
            return BAD_VALUE;
        }
        history.add(state);
        state.emptyRing(k, gray);
        state.waitCount = 0;
        return state.depth();
    }

    public int setClock(int side, int period, int phase) {
        if (!isSide(side)) {
            return UNKNOWN;
        }
        if (!isWithin(period, 1, MOST_PERIOD) || !isWithin(phase, 0, MOST_PHASE)) {
            return BAD_VALUE;
        }
        Side own = state.sideOf(side);
        if (own.period == period && own.phase == phase) {
            return NONE;
        }
        history.add(state);
        int previous = own.period;
        own.period = period;
        own.phase = phase;
        return previous;
    }

    public int start(int side, boolean going) {
        if (!isSide(side)) {
            return UNKNOWN;
        }
        Side own = state.sideOf(side);
        if (own.going == going) {
            return NONE;
        }
        history.add(state);
        own.going = going;
        return state.time;
    }

    public int set(int which, int value) {
        if (!isWithin(which, 0, 1) || !isWithin(value, 0, MOST_SETTING)) {
            return BAD_VALUE;
        }
        int previous = which == 0 ? state.nearFull : state.nearEmpty;
        if (previous == value) {
            return NONE;
        }
        history.add(state);
        if (which == 0) {
            state.nearFull = value;
        } else {
            state.nearEmpty = value;
        }
        return previous;
    }

    // ---- words and time

    public int push(int word) {
        if (!isWithin(word, 0, MOST_WORD)) {
            return BAD_VALUE;
        }
        if (state.waitCount >= MOST_WAITING) {
            return FULL;
        }
        history.add(state);
        state.letWait(word, 1);
        return state.waitCount;
    }

    public int pushAll() {
        int fault = text.read();
        if (fault != NO_FAULT) {
            return FAULT_BASE - fault;
        }
        trial.copy(state);
        if (!trial.follow(text)) {
            return FULL;
        }
        history.add(state);
        state.copy(trial);
        return text.wordsInParts();
    }

    public int pass(int times) {
        if (!isWithin(times, 1, MOST_PASS)) {
            return BAD_VALUE;
        }
        if (!state.hasTimeFor(times)) {
            return FULL;
        }
        history.add(state);
        int before = state.takenCount;
        state.letPass(times);
        return state.takenCount - before;
    }

    // ---- texts

    public int type(char character) {
        return text.append(character) ? text.length : FULL;
    }

    public int clearText() {
        int length = text.length;
        text.length = 0;
        return length;
    }

    // ---- history

    public int undo() {
        return history.moveLatestTo(state) ? history.size : NONE;
    }

    public int keep() {
        snapshot.copy(state);
        snapshotTaken = true;
        return state.time;
    }

    public int restore() {
        if (!snapshotTaken) {
            return NONE;
        }
        history.add(state);
        state.copy(snapshot);
        return state.time;
    }

    // ---- what is told

    public int side(int side, int what) {
        if (!isSide(side)) {
            return UNKNOWN;
        }
        Side own = state.sideOf(side);
        switch (what) {
            case 0: return own.period;
            case 1: return own.phase;
            case 2: return asNumber(own.going);
            case 3: return own.pointer;
            case 4: return state.codeOf(own.pointer);
            case 5: return own.first;
            case 6: return own.second;
            case 7: return state.pointerOf(own.second);
            case 8: return side == WRITER ? state.fillToWriter() : state.fillToReader();
            case 9: return asNumber(side == WRITER ? state.seemsFull() : state.seemsEmpty());
            case 10: return asNumber(side == WRITER ? state.seemsNearFull() : state.seemsNearEmpty());
            case 11: return own.timesToTick(state.time);
            case 12: return own.ticks;
            case 13: return own.torn;
            default: return BAD_VALUE;
        }
    }

    public int place(int place, int what) {
        if (!isWithin(place, 0, state.depth() - 1)) {
            return UNKNOWN;
        }
        switch (what) {
            case 0: return valueAt(state.words, place);
            case 1: return valueAt(state.numbers, place);
            default: return BAD_VALUE;
        }
    }

    public int waiting(int rank) {
        if (rank < 0) {
            return BAD_VALUE;
        }
        return rank < state.waitCount ? valueAt(state.waits, rank) : NONE;
    }

    public int taken(int ago) {
        if (ago < 0) {
            return BAD_VALUE;
        }
        return state.latestCame(ago);
    }

    public int doneIn() {
        trial.copy(state);
        for (int times = 0; times <= MOST_TIMES_TO_DONE; times++) {
            if (trial.isDone()) {
                return times;
            }
            trial.step();
        }
        return NONE;
    }

    public int leastDepth(int times) {
        if (!isWithin(times, 1, MOST_PASS)) {
            return BAD_VALUE;
        }
        for (int k = 1; k <= MOST_K; k++) {
            trial.copy(state);
            trial.emptyRing(k, state.gray);
            if (!trial.stallsWithin(times)) {
                return k;
            }
        }
        return NONE;
    }

    public int count(int what) {
        switch (what) {
            case 0: return state.time;
            case 1: return state.k;
            case 2: return state.depth();
            case 3: return asNumber(state.gray);
            case 4: return state.around(state.writer.pointer - state.reader.pointer);
            case 5: return state.waitCount;
            case 6: return state.putCount;
            case 7: return state.takenCount;
            case 8: return state.rightCount;
            case 9: return state.takenCount - state.rightCount;
            case 10: return state.nearFull;
            case 11: return state.nearEmpty;
            case 12: return history.size;
            case 13: return text.length;
            default: return BAD_VALUE;
        }
    }

    // ---- small helpers

    private static boolean isWithin(int value, int least, int most) {
        return value >= least && value <= most;
    }

    private static boolean isSide(int side) {
        return side == WRITER || side == READER;
    }

    private static int asNumber(boolean so) {
        return so ? 1 : 0;
    }

    private static int remainder(int value, int divisor) {
        return divisor > 0 ? value % divisor : 0;
    }

    private static int valueAt(int[] row, int index) {
        return index >= 0 && index < row.length ? row[index] : 0;
    }

    private static void setAt(int[] row, int index, int value) {
        if (index >= 0 && index < row.length) {
            row[index] = value;
        }
    }

    private static void fillRow(int[] row, int value) {
        for (int i = 0; i < row.length; i++) {
            row[i] = value;
        }
    }

    private static void copyRow(int[] from, int[] to) {
        for (int i = 0; i < from.length && i < to.length; i++) {
            to[i] = from[i];
        }
    }

    /** The writer or the reader: its clock, its pointer, and what it saw of the other one. */
    private static final class Side {
        private int period;
        private int phase;
        private boolean going = true;
        private int pointer;
        private int first;
        private int second;
        private int ticks;
        private int torn;

        Side(int firstPeriod) {
            period = firstPeriod;
        }

        boolean ticksAt(int time) {
            return going && remainder(time + phase, period) == 0;
        }

        int timesToTick(int time) {
            return going ? period - remainder(time + phase, period) : NONE;
        }

        /** Ticks, and samples a code that may change to another one in the same time. */
        void tick(int codeAhead, int codeBehind) {
            int unlike = codeAhead ^ codeBehind;
            ticks++;
            if (unlike != 0) {
                torn++;
            }
            second = first;
            first = codeAhead ^ (unlike & ODD_BITS);
        }

        /** The clock stays, with its ticks and torn samples: only the ring is built anew. */
        void clearPointers() {
            pointer = 0;
            first = 0;
            second = 0;
        }

        void copy(Side other) {
            period = other.period;
            phase = other.phase;
            going = other.going;
            pointer = other.pointer;
            first = other.first;
            second = other.second;
            ticks = other.ticks;
            torn = other.torn;
        }
    }

    /** All that undo and the snapshot bring back. */
    private static final class State {
        private int k = 2;
        private boolean gray = true;
        private int time;
        private int nearFull = 1;
        private int nearEmpty = 1;
        private final Side writer = new Side(10);
        private final Side reader = new Side(14);
        private final int[] words = new int[MOST_DEPTH];
        private final int[] numbers = new int[MOST_DEPTH];
        private final int[] waits = new int[MOST_WAITING];
        private int waitCount;
        /** The latest words that were taken, each at its number modulo the row's length. */
        private final int[] came = new int[MOST_CAME];
        private int putCount;
        private int takenCount;
        private int rightCount;

        State() {
            fillRow(numbers, NONE);
        }

        Side sideOf(int side) {
            return side == WRITER ? writer : reader;
        }

        int depth() {
            return 1 << k;
        }

        int placeOf(int pointer) {
            return pointer & (depth() - 1);
        }

        /** Twice the depth is a power of two, so the mask is the modulo, for negative numbers too. */
        int around(int pointer) {
            return pointer & (2 * depth() - 1);
        }

        int codeOf(int pointer) {
            return gray ? pointer ^ (pointer >> 1) : pointer;
        }

        int pointerOf(int code) {
            if (!gray) {
                return code;
            }
            int pointer = code;
            for (int shift = 1; shift <= MOST_K; shift++) {
                pointer ^= code >> shift;
            }
            return pointer;
        }

        int fillToWriter() {
            return around(writer.pointer - pointerOf(writer.second));
        }

        int fillToReader() {
            return around(pointerOf(reader.second) - reader.pointer);
        }

        boolean seemsFull() {
            return pointerOf(writer.second) == around(writer.pointer + depth());
        }

        boolean seemsEmpty() {
            return pointerOf(reader.second) == reader.pointer;
        }

        boolean seemsNearFull() {
            return fillToWriter() >= depth() - nearFull;
        }

        boolean seemsNearEmpty() {
            return fillToReader() <= nearEmpty;
        }

        /** Leaves the words that wait: leastDepth asks for them in the new ring. */
        void emptyRing(int newK, boolean newGray) {
            k = newK;
            gray = newGray;
            writer.clearPointers();
            reader.clearPointers();
            fillRow(words, 0);
            fillRow(numbers, NONE);
            putCount = 0;
            takenCount = 0;
            rightCount = 0;
        }

        boolean letWait(int word, int often) {
            if (waitCount + often > MOST_WAITING) {
                return false;
            }
            for (int i = 0; i < often; i++) {
                setAt(waits, waitCount, word);
                waitCount++;
            }
            return true;
        }

        boolean hasTimeFor(int times) {
            return time + times <= MOST_TIME;
        }

        void letPass(int times) {
            for (int i = 0; i < times; i++) {
                step();
            }
        }

        /** Does what the text's parts tell; answers false where there is no room, half done. */
        boolean follow(Text text) {
            for (int part = 0; part < text.parts; part++) {
                int word = valueAt(text.partWords, part);
                int times = valueAt(text.partTimes, part);
                if (word != NO_WORD) {
                    if (!letWait(word, times)) {
                        return false;
                    }
                } else if (hasTimeFor(times)) {
                    letPass(times);
                } else {
                    return false;
                }
            }
            return true;
        }

        boolean isDone() {
            return waitCount == 0 && takenCount == putCount;
        }

        boolean stallsWithin(int times) {
            for (int i = 0; i < times; i++) {
                if (writer.ticksAt(time + 1) && waitCount > 0 && seemsFull()) {
                    return true;
                }
                step();
            }
            return false;
        }

        /** Lets one time pass. All is decided by what is so ahead of it, before anything changes. */
        void step() {
            time++;
            boolean writerTicks = writer.ticksAt(time);
            boolean readerTicks = reader.ticksAt(time);
            if (!writerTicks && !readerTicks) {
                return;
            }
            boolean writerActs = writerTicks && waitCount > 0 && !seemsFull();
            boolean readerActs = readerTicks && !seemsEmpty();
            int writeAhead = codeOf(writer.pointer);
            int writeBehind = writerActs ? codeOf(around(writer.pointer + 1)) : writeAhead;
            int readAhead = codeOf(reader.pointer);
            int readBehind = readerActs ? codeOf(around(reader.pointer + 1)) : readAhead;
            if (writerTicks) {
                writer.tick(readAhead, readBehind);
            }
            if (readerTicks) {
                reader.tick(writeAhead, writeBehind);
            }
            // The reader comes first: it must see the ring as it was ahead of the put.
            if (readerActs) {
                takeWord();
            }
            if (writerActs) {
                putWord();
            }
        }

        private void takeWord() {
            int place = placeOf(reader.pointer);
            int word = valueAt(words, place);
            boolean right = valueAt(numbers, place) == takenCount;
            setAt(came, takenCount & (MOST_CAME - 1), right ? word : word + CAME_WRONG);
            takenCount++;
            if (right) {
                rightCount++;
            }
            reader.pointer = around(reader.pointer + 1);
        }

        private void putWord() {
            int place = placeOf(writer.pointer);
            setAt(words, place, valueAt(waits, 0));
            setAt(numbers, place, putCount);
            putCount++;
            waitCount--;
            for (int i = 0; i < waitCount; i++) {
                setAt(waits, i, valueAt(waits, i + 1));
            }
            writer.pointer = around(writer.pointer + 1);
        }

        int latestCame(int ago) {
            if (ago >= takenCount || ago >= MOST_CAME) {
                return NONE;
            }
            return valueAt(came, (takenCount - 1 - ago) & (MOST_CAME - 1));
        }

        void copy(State other) {
            k = other.k;
            gray = other.gray;
            time = other.time;
            nearFull = other.nearFull;
            nearEmpty = other.nearEmpty;
            writer.copy(other.writer);
            reader.copy(other.reader);
            copyRow(other.words, words);
            copyRow(other.numbers, numbers);
            copyRow(other.waits, waits);
            waitCount = other.waitCount;
            copyRow(other.came, came);
            putCount = other.putCount;
            takenCount = other.takenCount;
            rightCount = other.rightCount;
        }
    }

    /** The latest states; all are made with the object, so that no call makes one. */
    private static final class History {
        private final State[] states = new State[MOST_STATES];
        private int oldest;
        private int size;

        History() {
            for (int i = 0; i < states.length; i++) {
                states[i] = new State();
            }
        }

        void add(State state) {
            if (size == MOST_STATES) {
                oldest = remainder(oldest + 1, MOST_STATES);
                size--;
            }
            State free = stateAt(size);
            if (free != null) {
                free.copy(state);
                size++;
            }
        }

        boolean moveLatestTo(State state) {
            State latest = size > 0 ? stateAt(size - 1) : null;
            if (latest == null) {
                return false;
            }
            state.copy(latest);
            size--;
            return true;
        }

        private State stateAt(int rank) {
            int index = remainder(oldest + rank, MOST_STATES);
            return index >= 0 && index < states.length ? states[index] : null;
        }
    }

    /** The text, and the parts that were read from it the latest time. */
    private static final class Text {
        private final char[] signs = new char[MOST_SIGNS];
        private int length;
        private final int[] partWords = new int[MOST_PARTS];
        private final int[] partTimes = new int[MOST_PARTS];
        private int parts;
        /** The sign that is read next; where reading ends with a fault, it stands there. */
        private int cursor;

        boolean append(char sign) {
            if (length < 0 || length >= signs.length) {
                return false;
            }
            signs[length] = sign;
            length++;
            return true;
        }

        /** Answers the fault of the text, or NO_FAULT; then its parts are known. */
        int read() {
            parts = 0;
            cursor = 0;
            for (int round = 0; round < MOST_PARTS; round++) {
                if (!readPart()) {
                    return cursor;
                }
                if (cursor == length) {
                    return NO_FAULT;
                }
                if (!readSign(',')) {
                    return cursor;
                }
            }
            // As many parts fill the longest text: the comma behind the last one ended it too early.
            return cursor;
        }

        int wordsInParts() {
            int sum = 0;
            for (int part = 0; part < parts; part++) {
                if (valueAt(partWords, part) != NO_WORD) {
                    sum += valueAt(partTimes, part);
                }
            }
            return sum;
        }

        private boolean readPart() {
            if (readSign('.')) {
                int times = readNumber(1);
                return times != NO_NUMBER && addPart(NO_WORD, times);
            }
            int word = readNumber(0);
            if (word == NO_NUMBER) {
                return false;
            }
            if (!readSign('x')) {
                return addPart(word, 1);
            }
            int often = digitAtCursor();
            if (often < 2) {
                return false;
            }
            cursor++;
            return addPart(word, often);
        }

        /** Reads at most two digits: a third one, or one behind a zero, is left as a fault. */
        private int readNumber(int leastDigit) {
            int number = digitAtCursor();
            if (number < leastDigit) {
                return NO_NUMBER;
            }
            cursor++;
            int next = digitAtCursor();
            if (number == 0 || next == NO_DIGIT) {
                return number;
            }
            cursor++;
            return number * 10 + next;
        }

        private boolean readSign(char wanted) {
            if (!hasSign() || signs[cursor] != wanted) {
                return false;
            }
            cursor++;
            return true;
        }

        private int digitAtCursor() {
            if (!hasSign() || signs[cursor] < '0' || signs[cursor] > '9') {
                return NO_DIGIT;
            }
            return signs[cursor] - '0';
        }

        private boolean hasSign() {
            return cursor >= 0 && cursor < length && cursor < signs.length;
        }

        private boolean addPart(int word, int times) {
            if (parts >= MOST_PARTS) {
                return false;
            }
            setAt(partWords, parts, word);
            setAt(partTimes, parts, times);
            parts++;
            return true;
        }
    }
}
