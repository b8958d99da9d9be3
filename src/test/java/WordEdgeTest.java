/** The edges of the terms 'words': a method for each sentence, named in its comment. */
final class WordEdgeTest {
    private static final int BAD_VALUE = GrayPointers.BAD_VALUE;
    private static final int FULL = GrayPointers.FULL;
    private static final int NONE = GrayPointers.NONE;

    private WordEdgeTest() {
    }

    static void run() {
        theLeastAndTheGreatestWord();
        twentyWait();
        theRowOfWordsThatWaitGoesRound();
        numbersAreInTheirOrder();
        theRowOfWordsTakenGoesRound();
        aPlaceWithoutANumber();
        sameWordsOfOtherNumbers();
        almostFull();
        almostFullBelowZero();
        almostEmpty();
        almostEmptyInAFullRing();
        settingsAtTheirEdges();
    }

    /** "A word is 0 to 99." */
    private static void theLeastAndTheGreatestWord() {
        GrayPointers x = Made.even(2, true);
        Due.is("push(-1)", BAD_VALUE, x.push(-1));
        Due.is("push(0)", 1, x.push(0));
        Due.is("push(99)", 2, x.push(99));
        Due.is("push(100)", BAD_VALUE, x.push(100));
        Due.is("two wait", 2, x.count(5));
        Due.is("the least word waits", 0, x.waiting(0));
        Due.is("the greatest word waits", 99, x.waiting(1));
        x.pass(2);
        Due.is("the least word's place", 0, x.place(0, 0));
        Due.is("the greatest word's place", 99, x.place(1, 0));
        x.pass(8);
        Due.is("the greatest word came", 99, x.taken(0));
        Due.is("the least word came", 0, x.taken(1));
        Due.is("both right", 2, x.count(8));
    }

    /** "At most 20 words wait at the writer." */
    private static void twentyWait() {
        GrayPointers x = new GrayPointers();
        Due.is("none waits", NONE, x.waiting(0));
        Made.push(x, 50, 19);
        Due.is("19 wait", 19, x.count(5));
        Due.is("the 20th", 20, x.push(69));
        Due.is("the 21st", FULL, x.push(70));
        Due.is("20 wait", 20, x.count(5));
        Due.is("the last one", 69, x.waiting(19));
        Due.is("behind the last one", NONE, x.waiting(20));
        x.pass(10);
        Due.is("one was put", 19, x.count(5));
        Due.is("the first of the rest", 51, x.waiting(0));
        Due.is("the last of the rest", 69, x.waiting(18));
        Due.is("behind it", NONE, x.waiting(19));
        Due.is("there is room for one", 20, x.push(71));
        Due.is("and for no more", FULL, x.push(72));
        Due.is("the new one is the last", 71, x.waiting(19));
    }

    /** "the writer puts the first word that waits": in their order, however often the row goes round. */
    private static void theRowOfWordsThatWaitGoesRound() {
        GrayPointers x = Made.even(4, true);
        Made.push(x, 0, 20);
        for (int word = 20; word < 70; word++) {
            x.pass(1);
            x.push(word);
            Due.is("the first that waits", word - x.count(5) + 1, x.waiting(0));
            Due.is("the last that waits", word, x.waiting(x.count(5) - 1));
            Due.is("behind it", NONE, x.waiting(x.count(5)));
        }
        x.pass(100);
        Due.is("all came", 70, x.count(8));
        Due.is("none waits", NONE, x.waiting(0));
        Due.is("the last one came", 69, x.taken(0));
    }

    /** "Words that were put into the ring are numbered from 0 in their order" */
    private static void numbersAreInTheirOrder() {
        GrayPointers x = Made.even(2, true);
        x.start(1, false);
        Made.push(x, 30, 5);
        for (int number = 0; number < 4; number++) {
            Due.is("not put yet", NONE, x.place(number, 1));
            Due.is("no word is there", 0, x.place(number, 0));
            x.pass(1);
            Due.is("the number", number, x.place(number, 1));
            Due.is("the word", 30 + number, x.place(number, 0));
            Due.is("words put", number + 1, x.count(6));
        }
        x.pass(5);
        Due.is("the ring is full: words put", 4, x.count(6));
        Due.is("the first number stays", 0, x.place(0, 1));
        x.start(1, true);
        x.pass(9);
        Due.is("the fifth goes round: its number", 4, x.place(0, 1));
        Due.is("its word", 34, x.place(0, 0));
        Due.is("words taken", 5, x.count(7));
    }

    /** "the latest words that were taken (at most 16 are kept)" */
    private static void theRowOfWordsTakenGoesRound() {
        int[] counts = {0, 1, 15, 16, 17, 31, 32, 33, 48, 50};
        for (int count : counts) {
            GrayPointers x = Made.after(count, 2, true);
            int kept = Math.min(count, 16);
            for (int ago = 0; ago < kept; ago++) {
                Due.is(count + " came: taken(" + ago + ")", count - 1 - ago, x.taken(ago));
            }
            Due.is(count + " came: behind them", NONE, x.taken(kept));
            Due.is(count + " came: taken(16)", NONE, x.taken(16));
            Due.is(count + " came: taken(17)", NONE, x.taken(17));
            Due.is(count + " came: taken(-1)", BAD_VALUE, x.taken(-1));
            Due.is(count + " came: all right", count, x.count(8));
            x.build(2, true);
            Due.is(count + " came: none is kept in a new ring", NONE, x.taken(0));
        }
    }

    /** "a place where none was put has no number, and the word 0" */
    private static void aPlaceWithoutANumber() {
        GrayPointers x = Made.even(4, true);
        Made.push(x, 50, 15);
        x.pass(100);
        Due.is("the last place with one", 14, x.place(14, 1));
        Due.is("its word", 64, x.place(14, 0));
        Due.is("the place without one", NONE, x.place(15, 1));
        Due.is("has the word 0", 0, x.place(15, 0));
        x.push(99);
        x.pass(1);
        Due.is("it gets one", 15, x.place(15, 1));
        Due.is("and the word", 99, x.place(15, 0));
        x.undo();
        Due.is("undone: it has none", NONE, x.place(15, 1));
        Due.is("undone: no word", 0, x.place(15, 0));
        x.pass(100);
        x.build(4, true);
        for (int place = 0; place < 16; place++) {
            Due.is("built anew: no number", NONE, x.place(place, 1));
            Due.is("built anew: no word", 0, x.place(place, 0));
        }
    }

    /** "by that number itself (not by its value alone)": each of them is another word. */
    private static void sameWordsOfOtherNumbers() {
        GrayPointers x = Made.even(1, false);
        for (int i = 0; i < 20; i++) {
            x.push(0);
        }
        x.pass(300);
        Due.is("20 words 0: right", 20, x.count(8));
        Due.is("20 words 0: wrong", 0, x.count(9));
        Due.is("20 words 0: the latest", 0, x.taken(0));
        Due.is("20 words 0: their numbers", 18, x.place(0, 1));
        Due.is("20 words 0: the last number", 19, x.place(1, 1));
    }

    /** "almost full to the writer if the fill that it sees .. is at least the depth less the setting 0" */
    private static void almostFull() {
        for (int setting = 0; setting <= 15; setting++) {
            GrayPointers x = Made.even(4, true);
            x.start(1, false);
            x.set(0, setting);
            for (int fill = 0; fill <= 16; fill++) {
                String at = "setting 0 of " + setting + ", fill " + fill;
                Due.is(at, fill + setting >= 16 ? 1 : 0, x.side(0, 10));
                x.push(fill);
                x.pass(1);
            }
        }
    }

    /** The depth less the setting may be 0 or less: then it is always so. */
    private static void almostFullBelowZero() {
        int[] settings = {0, 1, 2, 3, 15};
        int[] empty = {0, 0, 1, 1, 1};
        int[] half = {0, 1, 1, 1, 1};
        for (int i = 0; i < settings.length; i++) {
            GrayPointers x = Made.even(1, true);
            x.start(1, false);
            x.set(0, settings[i]);
            Due.is("depth 2, empty, setting " + settings[i], empty[i], x.side(0, 10));
            x.push(1);
            x.pass(1);
            Due.is("depth 2, half full, setting " + settings[i], half[i], x.side(0, 10));
            x.push(2);
            x.pass(1);
            Due.is("depth 2, full, setting " + settings[i], 1, x.side(0, 10));
        }
    }

    /** "almost empty to the reader if the fill that it sees is at most the setting 1" */
    private static void almostEmpty() {
        for (int setting = 0; setting <= 15; setting++) {
            GrayPointers x = fullToTheReader(4);
            x.set(1, setting);
            for (int fill = 16; fill >= 0; fill--) {
                String at = "setting 1 of " + setting + ", fill " + fill;
                Due.is(at, fill <= setting ? 1 : 0, x.side(1, 10));
                x.pass(1);
            }
            Due.is("setting 1 of " + setting + ", empty", 1, x.side(1, 10));
        }
    }

    private static void almostEmptyInAFullRing() {
        GrayPointers x = fullToTheReader(1);
        x.set(1, 2);
        Due.is("depth 2, full, setting 2", 1, x.side(1, 10));
        x.set(1, 1);
        Due.is("depth 2, full, setting 1", 0, x.side(1, 10));
        x.set(1, 15);
        Due.is("depth 2, full, setting 15", 1, x.side(1, 10));
        Due.is("though it is not empty", 0, x.side(1, 9));
    }

    private static GrayPointers fullToTheReader(int k) {
        GrayPointers x = Made.even(k, true);
        int depth = x.count(2);
        x.start(1, false);
        Made.push(x, 1, depth);
        x.pass(depth);
        x.start(0, false);
        x.start(1, true);
        x.pass(2);
        Due.is("the reader sees a full ring", depth, x.side(1, 8));
        return x;
    }

    /** "The settings are 0 to 15 (1 and 1 at first)." */
    private static void settingsAtTheirEdges() {
        for (int which = 0; which <= 1; which++) {
            GrayPointers x = new GrayPointers();
            Due.is("a setting at first", 1, x.count(10 + which));
            Due.is("set to 16", BAD_VALUE, x.set(which, 16));
            Due.is("set to -1", BAD_VALUE, x.set(which, -1));
            Due.is("set to 15", 1, x.set(which, 15));
            Due.is("it is 15", 15, x.count(10 + which));
            Due.is("set to 15 again", NONE, x.set(which, 15));
            Due.is("set to 0", 15, x.set(which, 0));
            Due.is("it is 0", 0, x.count(10 + which));
            Due.is("set to 0 again", NONE, x.set(which, 0));
            Due.is("the other one stays", 1, x.count(11 - which));
            Due.is("states", 2, x.count(12));
        }
    }
}
