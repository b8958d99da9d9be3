/** How pointers cross: ticks, acts, samples and torn samples (the terms, by promises 8 and 14). */
final class CrossingTest {
    private CrossingTest() {
    }

    static void run() {
        codesOfPointers();
        tornInGrayCode();
        tornAsItIs();
        seemsEmptyByATornSample();
        seemsFullThoughItIsNot();
        marks();
        theFillGoesRound();
        theReaderSeesTheRingAheadOfThePut();
    }

    private static void codesOfPointers() {
        int[] codes = {0, 1, 3, 2, 6, 7, 5, 4, 12, 13, 15, 14, 10, 11, 9, 8,
            24, 25, 27, 26, 30, 31, 29, 28, 20, 21, 23, 22, 18, 19, 17, 16};
        GrayPointers x = new GrayPointers();
        x.build(4, true);
        x.setClock(0, 2, 0);
        x.setClock(1, 2, 1);
        for (int pointer = 0; pointer <= 32; pointer++) {
            Due.is("the pointer", pointer % 32, x.side(0, 3));
            Due.is("the code of " + pointer % 32, codes[pointer % 32], x.side(0, 4));
            Due.is("the reader's pointer", pointer % 32, x.side(1, 3));
            Due.is("the reader's second register", codes[pointer % 32], x.side(1, 6));
            Due.is("the pointer of it", pointer % 32, x.side(1, 7));
            x.push(pointer);
            x.pass(10);
        }
        GrayPointers y = new GrayPointers();
        y.build(1, false);
        y.setClock(0, 1, 0);
        y.push(1);
        y.push(2);
        y.pass(2);
        Due.is("as it is: the code of 2", 2, y.side(0, 4));
    }

    private static void tornInGrayCode() {
        GrayPointers x = Made.even(2, true);
        int[] first = {0, 3, 3, 2, 6, 6, 6, 6};
        int[] second = {0, 0, 3, 3, 2, 6, 6, 6};
        int[] reader = {0, 0, 0, 1, 2, 3, 4, 4};
        int[] writerFirst = {0, 0, 0, 0, 3, 3, 2, 6};
        follow("gray", x, first, second, reader, writerFirst);
    }

    private static void tornAsItIs() {
        GrayPointers x = Made.even(2, false);
        int[] first = {0, 3, 2, 1, 4, 4, 4, 4};
        int[] second = {0, 0, 3, 2, 1, 4, 4, 4};
        int[] reader = {0, 0, 0, 1, 2, 3, 4, 4};
        int[] writerFirst = {0, 0, 0, 0, 3, 2, 1, 4};
        follow("as it is", x, first, second, reader, writerFirst);
    }

    /** Four words; the writer acts at the times 1 to 4, the reader at 4 to 7. */
    private static void follow(String name, GrayPointers x, int[] first, int[] second, int[] reader,
                               int[] writerFirst) {
        for (int word = 10; word < 14; word++) {
            x.push(word);
        }
        Due.is(name + ": doneIn()", 7, x.doneIn());
        for (int i = 0; i < first.length; i++) {
            String at = name + " at " + (i + 1);
            Due.is(at + ": pass(1)", i >= 3 && i < 7 ? 1 : 0, x.pass(1));
            Due.is(at + ": the write pointer", Math.min(i + 1, 4), x.side(0, 3));
            Due.is(at + ": the read pointer", reader[i], x.side(1, 3));
            Due.is(at + ": the reader's first register", first[i], x.side(1, 5));
            Due.is(at + ": the reader's second register", second[i], x.side(1, 6));
            Due.is(at + ": the writer's first register", writerFirst[i], x.side(0, 5));
            Due.is(at + ": the reader's torn samples", Math.min(i + 1, 4), x.side(1, 13));
            Due.is(at + ": the writer's torn samples", Math.max(0, Math.min(i - 2, 4)), x.side(0, 13));
        }
        Due.is(name + ": right words", 4, x.count(8));
        Due.is(name + ": the latest", 13, x.taken(0));
    }

    /** The write pointer goes from 3 to 4 (all bits) just as the reader samples; the reader is at 1. */
    private static void seemsEmptyByATornSample() {
        for (int gray = 0; gray <= 1; gray++) {
            GrayPointers x = Made.even(2, gray == 1);
            x.push(1);
            x.pass(4);
            Due.is("torn: the reader took one", 1, x.side(1, 3));
            x.start(1, false);
            x.push(2);
            x.push(3);
            x.pass(2);
            x.start(1, true);
            x.push(4);
            x.pass(1);
            Due.is("torn: the first register", gray == 1 ? 2 : 1, x.side(1, 5));
            x.pass(1);
            Due.is("torn: the fill", 3, x.count(4));
            Due.is("torn: the fill that the reader sees", gray == 1 ? 2 : 0, x.side(1, 8));
            Due.is("torn: it seems empty", gray == 1 ? 0 : 1, x.side(1, 9));
            Due.is("torn: pass(1)", gray == 1 ? 1 : 0, x.pass(1));
            Due.is("torn: doneIn()", gray == 1 ? 2 : 3, x.doneIn());
        }
    }

    private static void seemsFullThoughItIsNot() {
        GrayPointers x = Made.even(1, true);
        x.setClock(1, 50, 0);
        x.push(1);
        x.push(2);
        x.push(3);
        x.pass(100);
        Due.is("full: the fill", 2, x.count(4));
        Due.is("full: it seems full", 1, x.side(0, 9));
        Due.is("full: one waits", 1, x.count(5));
        Due.is("full: pass(50)", 1, x.pass(50));
        Due.is("full: the fill at 150", 1, x.count(4));
        Due.is("full: it seems full at 150", 1, x.side(0, 9));
        x.pass(1);
        Due.is("full: it seems full at 151", 1, x.side(0, 9));
        Due.is("full: the fill that the writer sees", 2, x.side(0, 8));
        x.pass(1);
        Due.is("full: not at 152", 0, x.side(0, 9));
        Due.is("full: the fill at 152", 1, x.count(4));
        x.pass(1);
        Due.is("full: the third word is put", 2, x.count(4));
    }

    private static void marks() {
        GrayPointers x = Made.even(3, true);
        x.start(1, false);
        x.set(0, 3);
        for (int fill = 0; fill <= 8; fill++) {
            Due.is("marks: the fill that is seen", fill, x.side(0, 8));
            Due.is("marks: almost full at " + fill, fill >= 5 ? 1 : 0, x.side(0, 10));
            Due.is("marks: full at " + fill, fill == 8 ? 1 : 0, x.side(0, 9));
            x.push(fill);
            x.pass(1);
        }
        x.set(1, 4);
        Due.is("marks: the reader sees none yet", 0, x.side(1, 8));
        Due.is("marks: almost empty", 1, x.side(1, 10));
        x.start(0, false);
        x.start(1, true);
        x.pass(2);
        for (int fill = 8; fill >= 0; fill--) {
            Due.is("marks: the fill that the reader sees", fill, x.side(1, 8));
            Due.is("marks: almost empty at " + fill, fill <= 4 ? 1 : 0, x.side(1, 10));
            Due.is("marks: empty at " + fill, fill == 0 ? 1 : 0, x.side(1, 9));
            x.pass(1);
        }
    }

    /** Both pointers stand far from 0: the writer's fill is what it has put beyond the reader. */
    private static void theFillGoesRound() {
        GrayPointers x = Made.even(2, true);
        for (int word = 0; word < 7; word++) {
            x.push(word);
        }
        x.pass(60);
        Due.is("round: the write pointer", 7, x.side(0, 3));
        Due.is("round: the pointer that the writer sees", 7, x.side(0, 7));
        Due.is("round: the writer sees none", 0, x.side(0, 8));
        x.start(1, false);
        for (int fill = 1; fill <= 4; fill++) {
            x.push(fill);
            x.pass(1);
            Due.is("round: the fill", fill, x.count(4));
            Due.is("round: the fill that the writer sees", fill, x.side(0, 8));
        }
        Due.is("round: the write pointer beyond the end", 3, x.side(0, 3));
        Due.is("round: it seems full", 1, x.side(0, 9));
        x.start(1, true);
        x.pass(2);
        Due.is("round: the fill that the reader sees", 4, x.side(1, 8));
        x.pass(3);
        Due.is("round: the fill when three are taken", 1, x.side(1, 8));
    }

    /** A ring of two places that is used round and round: no word is lost or comes wrong. */
    private static void theReaderSeesTheRingAheadOfThePut() {
        for (int gray = 0; gray <= 1; gray++) {
            GrayPointers x = Made.even(1, gray == 1);
            for (int word = 0; word < 20; word++) {
                x.push(word);
            }
            x.pass(200);
            Due.is("round: all were taken", 20, x.count(7));
            Due.is("round: and came right", 20, x.count(8));
            Due.is("round: none wrong", 0, x.count(9));
            for (int ago = 0; ago < 16; ago++) {
                Due.is("round: taken(" + ago + ")", 19 - ago, x.taken(ago));
            }
            Due.is("round: at most 16 are kept", GrayPointers.NONE, x.taken(16));
            Due.is("round: a place's number", 18, x.place(0, 1));
            Due.is("round: a place's word", 19, x.place(1, 0));
        }
    }
}
