/** The edges of the terms 'ring and pointers': a method for each sentence, named in its comment. */
final class RingEdgeTest {
    private static final int UNKNOWN = GrayPointers.UNKNOWN;
    private static final int BAD_VALUE = GrayPointers.BAD_VALUE;
    private static final int NONE = GrayPointers.NONE;

    private static final int[] DEPTHS = {0, 2, 4, 8, 16};
    private static final int[] GRAY_CODES = {0, 1, 3, 2, 6, 7, 5, 4, 12, 13, 15, 14, 10, 11, 9, 8,
        24, 25, 27, 26, 30, 31, 29, 28, 20, 21, 23, 22, 18, 19, 17, 16};
    /** What is sampled of the code of the last pointer while it goes round to 0, by k. */
    private static final int[] TORN_ROUND_GRAY = {0, 0, 4, 0, 16};
    private static final int[] TORN_ROUND_PLAIN = {0, 1, 5, 5, 21};

    private RingEdgeTest() {
    }

    static void run() {
        theDepth();
        for (int k = 1; k <= 4; k++) {
            for (int gray = 0; gray <= 1; gray++) {
                String at = "k " + k + (gray == 1 ? " in gray code: " : " as it is: ");
                pointersGoRound(at, k, gray == 1);
                placesGoRound(at, k, gray == 1);
                theFillGoesRound(at, k, gray == 1);
                codesOfAllPointers(at, k, gray == 1);
                tornSamplesOfAllPointers(at, k, gray == 1);
                tornSamplesGoRound(at, k, gray == 1);
            }
        }
        tornSamplesByHand();
    }

    /** "The ring has a depth of 2^k places, k being 1 to 4 (2 at first)." */
    private static void theDepth() {
        GrayPointers x = new GrayPointers();
        Due.is("k at first", 2, x.count(1));
        Due.is("the depth at first", 4, x.count(2));
        for (int k = 1; k <= 4; k++) {
            Due.is("build(" + k + ")", DEPTHS[k], x.build(k, true));
            Due.is("k", k, x.count(1));
            Due.is("the depth", DEPTHS[k], x.count(2));
            Due.is("the last place", NONE, x.place(DEPTHS[k] - 1, 1));
            Due.is("the place behind it", UNKNOWN, x.place(DEPTHS[k], 1));
            Due.is("the place ahead of the first", UNKNOWN, x.place(-1, 1));
        }
        Due.is("build(0)", BAD_VALUE, x.build(0, true));
        Due.is("build(5)", BAD_VALUE, x.build(5, true));
        Due.is("the depth that stays", 16, x.count(2));
    }

    /** "The write pointer and the read pointer count from 0 to twice the depth less 1, and go round" */
    private static void pointersGoRound(String at, int k, boolean gray) {
        int last = 2 * DEPTHS[k] - 1;
        GrayPointers x = Made.after(last, k, gray);
        Due.is(at + "the last write pointer", last, x.side(0, 3));
        Due.is(at + "the last read pointer", last, x.side(1, 3));
        x.push(1);
        x.pass(1);
        Due.is(at + "the write pointer goes round", 0, x.side(0, 3));
        Due.is(at + "the read pointer does not yet", last, x.side(1, 3));
        Due.is(at + "the fill while one has gone round", 1, x.count(4));
        x.pass(7);
        Due.is(at + "the read pointer goes round", 0, x.side(1, 3));
        Due.is(at + "the fill when both have", 0, x.count(4));
        x.push(2);
        x.pass(8);
        Due.is(at + "the write pointer behind it", 1, x.side(0, 3));
        Due.is(at + "the read pointer behind it", 1, x.side(1, 3));
    }

    /** "the place of a pointer is the pointer modulo the depth" */
    private static void placesGoRound(String at, int k, boolean gray) {
        int depth = DEPTHS[k];
        for (int words = 0; words <= 2 * depth + 1; words++) {
            GrayPointers x = Made.after(words, k, gray);
            for (int place = 0; place < depth; place++) {
                int rounds = (words - place + depth - 1) / depth;
                int number = rounds == 0 ? NONE : place + (rounds - 1) * depth;
                Due.is(at + "the number at " + place + " after " + words, number, x.place(place, 1));
                Due.is(at + "the word at " + place + " after " + words, Math.max(0, number), x.place(place, 0));
            }
            Due.is(at + "all came right", words, x.count(8));
        }
    }

    /** "The fill is (the write pointer less the read pointer) modulo twice the depth." And when it is full. */
    private static void theFillGoesRound(String at, int k, boolean gray) {
        int depth = DEPTHS[k];
        int[] begins = {0, 1, depth - 1, depth, depth + 1, 2 * depth - 1, 2 * depth};
        for (int begin : begins) {
            String from = at + "from " + begin + ": ";
            GrayPointers x = Made.after(begin, k, gray);
            x.start(1, false);
            for (int fill = 0; fill <= depth; fill++) {
                Due.is(from + "the fill", fill, x.count(4));
                Due.is(from + "the fill that the writer sees", fill, x.side(0, 8));
                Due.is(from + "it seems full at " + fill, fill == depth ? 1 : 0, x.side(0, 9));
                x.push(fill);
                x.pass(1);
            }
            Due.is(from + "full: the last word waits", 1, x.count(5));
            Due.is(from + "full: the fill stays", depth, x.count(4));
            Due.is(from + "full: words put", begin + depth, x.count(6));
            x.pass(9);
            Due.is(from + "full: it waits still", 1, x.count(5));
            drain(from, x, depth);
        }
    }

    /** To the reader the ring seems empty when its pointer is the one that it sees, not ahead of that. */
    private static void drain(String from, GrayPointers x, int depth) {
        x.start(0, false);
        x.start(1, true);
        x.pass(2);
        for (int fill = depth; fill > 0; fill--) {
            Due.is(from + "the fill that the reader sees", fill, x.side(1, 8));
            Due.is(from + "it does not seem empty at " + fill, 0, x.side(1, 9));
            Due.is(from + "pass(1) at " + fill, 1, x.pass(1));
        }
        Due.is(from + "empty: the fill that the reader sees", 0, x.side(1, 8));
        Due.is(from + "empty: it seems so", 1, x.side(1, 9));
        Due.is(from + "empty: pass(9)", 0, x.pass(9));
        Due.is(from + "empty: the fill", 0, x.count(4));
        Due.is(from + "none came wrong", 0, x.count(9));
    }

    /** "A pointer crosses as a code of k + 1 bits"; "the pointer is had back by: bit by bit" */
    private static void codesOfAllPointers(String at, int k, boolean gray) {
        for (int pointer = 0; pointer < 2 * DEPTHS[k]; pointer++) {
            int code = gray ? GRAY_CODES[pointer] : pointer;
            GrayPointers x = Made.after(pointer, k, gray);
            for (int side = 0; side <= 1; side++) {
                String of = at + "side " + side + " at " + pointer + ": ";
                Due.is(of + "the pointer", pointer, x.side(side, 3));
                Due.is(of + "its code", code, x.side(side, 4));
                Due.is(of + "the first register", code, x.side(side, 5));
                Due.is(of + "the second register", code, x.side(side, 6));
                Due.is(of + "the pointer of it", pointer, x.side(side, 7));
            }
        }
    }

    /** "those at even places (0, 2 ..) are taken from the code ahead of it, those at odd places from .. behind it" */
    private static void tornSamplesOfAllPointers(String at, int k, boolean gray) {
        int around = 2 * DEPTHS[k];
        for (int pointer = 0; pointer < around; pointer++) {
            int next = pointer + 1 == around ? 0 : pointer + 1;
            int torn = gray ? torn(GRAY_CODES[pointer], GRAY_CODES[next]) : torn(pointer, next);
            GrayPointers x = Made.after(pointer, k, gray);
            int tornToReader = x.side(1, 13);
            int tornToWriter = x.side(0, 13);
            x.push(7);
            x.pass(1);
            Due.is(at + "the reader's sample from " + pointer, torn, x.side(1, 5));
            Due.is(at + "it is torn", tornToReader + 1, x.side(1, 13));
            Due.is(at + "the writer's is not", tornToWriter, x.side(0, 13));
            x.pass(1);
            Due.is(at + "the pointer that the reader sees from " + pointer,
                gray ? grayPointer(torn) : torn, x.side(1, 7));
            for (int i = 0; i < 2 && x.side(1, 3) == pointer; i++) {
                Due.is(at + "the writer has no torn sample yet", tornToWriter, x.side(0, 13));
                x.pass(1);
            }
            Due.is(at + "the reader acted", next, x.side(1, 3));
            Due.is(at + "the writer's sample from " + pointer, torn, x.side(0, 5));
            Due.is(at + "it is torn, too", tornToWriter + 1, x.side(0, 13));
            Due.is(at + "the reader had no other", tornToReader + 1, x.side(1, 13));
        }
    }

    private static int torn(int ahead, int behind) {
        int code = 0;
        for (int bit = 0; bit < 5; bit++) {
            int from = bit % 2 == 0 ? ahead : behind;
            code += from / (1 << bit) % 2 * (1 << bit);
        }
        return code;
    }

    private static int grayPointer(int code) {
        for (int pointer = 0; pointer < GRAY_CODES.length; pointer++) {
            if (GRAY_CODES[pointer] == code) {
                return pointer;
            }
        }
        return -1;
    }

    private static void tornSamplesGoRound(String at, int k, boolean gray) {
        GrayPointers x = Made.after(2 * DEPTHS[k] - 1, k, gray);
        x.push(7);
        x.pass(1);
        Due.is(at + "torn from the last to 0", gray ? TORN_ROUND_GRAY[k] : TORN_ROUND_PLAIN[k], x.side(1, 5));
    }

    /** At k = 2; by it the ring seems to hold words that are not there, or none where some are. */
    private static void tornSamplesByHand() {
        int[] gray = {0, 3, 3, 2, 6, 5, 5, 4};
        int[] plain = {0, 3, 2, 1, 4, 7, 6, 5};
        for (int pointer = 0; pointer < 8; pointer++) {
            GrayPointers x = Made.after(pointer, 2, true);
            x.push(7);
            x.pass(1);
            Due.is("torn in gray code from " + pointer, gray[pointer], x.side(1, 5));
            GrayPointers y = Made.after(pointer, 2, false);
            y.push(7);
            y.pass(1);
            Due.is("torn as it is from " + pointer, plain[pointer], y.side(1, 5));
        }
        GrayPointers x = Made.after(5, 2, false);
        x.push(7);
        x.pass(2);
        Due.is("5 to 6 is seen as 7: the fill", 1, x.count(4));
        Due.is("5 to 6 is seen as 7: the fill that the reader sees", 2, x.side(1, 8));
        GrayPointers y = Made.after(7, 2, false);
        y.push(7);
        y.pass(2);
        Due.is("7 to 0 is seen as 5: the fill that the reader sees", 6, y.side(1, 8));
        Due.is("7 to 0 is seen as 5: almost empty", 0, y.side(1, 10));
        Due.is("7 to 0 is seen as 5: pass(1)", 1, y.pass(1));
        Due.is("7 to 0 is seen as 5: it came right", 7, y.taken(0));
    }
}
