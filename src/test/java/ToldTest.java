/** Promises 14 to 20: side, place, waiting, taken, doneIn, leastDepth, count. */
final class ToldTest {
    private static final int UNKNOWN = GrayPointers.UNKNOWN;
    private static final int BAD_VALUE = GrayPointers.BAD_VALUE;
    private static final int NONE = GrayPointers.NONE;
    private static final int[] NEGATIVE = {-1, -16, Integer.MIN_VALUE};

    private ToldTest() {
    }

    static void run() {
        side();
        timesToTick();
        place();
        waiting();
        taken();
        doneIn();
        doneInAtItsEdge();
        leastDepth();
        leastDepthKeepsTheClocks();
        count();
    }

    private static void side() {
        GrayPointers x = new GrayPointers();
        Due.is("side(-1, 0)", UNKNOWN, x.side(-1, 0));
        Due.is("side(2, 99)", UNKNOWN, x.side(2, 99));
        Due.is("side(0, -1)", BAD_VALUE, x.side(0, -1));
        Due.is("side(1, 14)", BAD_VALUE, x.side(1, 14));
        x.setClock(0, 3, 1);
        x.setClock(1, 4, 2);
        x.start(1, false);
        int[] writer = {3, 1, 1};
        int[] reader = {4, 2, 0};
        for (int what = 0; what <= 2; what++) {
            Due.is("side(0, " + what + ")", writer[what], x.side(0, what));
            Due.is("side(1, " + what + ")", reader[what], x.side(1, what));
        }
    }

    private static void timesToTick() {
        GrayPointers x = new GrayPointers();
        Due.is("the writer's next tick", 10, x.side(0, 11));
        x.pass(3);
        Due.is("after 3 times", 7, x.side(0, 11));
        x.pass(6);
        Due.is("just ahead of it", 1, x.side(0, 11));
        x.pass(1);
        Due.is("at the tick", 10, x.side(0, 11));
        x.setClock(0, 10, 4);
        Due.is("by the phase", 6, x.side(0, 11));
        x.setClock(0, 1, 49);
        Due.is("at each time", 1, x.side(0, 11));
        x.setClock(0, 50, 49);
        Due.is("by a phase of 49", 41, x.side(0, 11));
        x.start(0, false);
        Due.is("it stands", NONE, x.side(0, 11));
        Due.is("the other one goes", 4, x.side(1, 11));
    }

    private static void place() {
        GrayPointers x = new GrayPointers();
        Due.is("place(-1, 0)", UNKNOWN, x.place(-1, 0));
        Due.is("place(4, 9)", UNKNOWN, x.place(4, 9));
        Due.is("place(0, -1)", BAD_VALUE, x.place(0, -1));
        Due.is("place(3, 2)", BAD_VALUE, x.place(3, 2));
        x.setClock(0, 1, 0);
        x.setClock(1, 1, 0);
        for (int word = 30; word < 36; word++) {
            x.push(word);
        }
        x.pass(50);
        int[] words = {34, 35, 32, 33};
        for (int place = 0; place < 4; place++) {
            Due.is("place(" + place + ", 0)", words[place], x.place(place, 0));
            Due.is("place(" + place + ", 1)", words[place] - 30, x.place(place, 1));
        }
        x.build(4, true);
        Due.is("place(15, 1)", NONE, x.place(15, 1));
        Due.is("place(16, 1)", UNKNOWN, x.place(16, 1));
        x.build(1, true);
        Due.is("place(2, 1)", UNKNOWN, x.place(2, 1));
    }

    private static void waiting() {
        GrayPointers x = new GrayPointers();
        for (int rank : NEGATIVE) {
            Due.is("waiting(" + rank + ")", BAD_VALUE, x.waiting(rank));
        }
        Due.is("waiting(0) of none", NONE, x.waiting(0));
        x.push(12);
        x.push(34);
        x.push(56);
        Due.is("waiting(0)", 12, x.waiting(0));
        Due.is("waiting(2)", 56, x.waiting(2));
        Due.is("waiting(3)", NONE, x.waiting(3));
        Due.is("waiting(far)", NONE, x.waiting(Integer.MAX_VALUE));
        x.pass(10);
        Due.is("waiting(0) when the first was put", 34, x.waiting(0));
        Due.is("waiting(2) when the first was put", NONE, x.waiting(2));
    }

    private static void taken() {
        GrayPointers x = new GrayPointers();
        for (int ago : NEGATIVE) {
            Due.is("taken(" + ago + ")", BAD_VALUE, x.taken(ago));
        }
        x.setClock(0, 1, 0);
        x.setClock(1, 1, 0);
        int pushed = 0;
        for (int i = 0; i < 25; i++) {
            x.push(i);
            pushed++;
            x.pass(4);
            Due.is("taken so far", pushed, x.count(7));
            Due.is("taken(0)", i, x.taken(0));
            int oldest = Math.min(i, 15);
            Due.is("the oldest that is kept", i - oldest, x.taken(oldest));
            Due.is("behind it", NONE, x.taken(oldest + 1));
        }
        Due.is("taken(far)", NONE, x.taken(Integer.MAX_VALUE));
        Due.is("none came wrong", 0, x.count(9));
    }

    private static void doneIn() {
        GrayPointers x = new GrayPointers();
        Due.is("doneIn() of none", 0, x.doneIn());
        x.push(1);
        Due.is("doneIn()", 42, x.doneIn());
        x.push(2);
        Due.is("doneIn() of two", 56, x.doneIn());
        Due.is("nothing changed: time", 0, x.count(0));
        Due.is("nothing changed: words", 2, x.count(5));
        x.pass(20);
        Due.is("none waits, but they are in the ring", 36, x.doneIn());
        x.start(1, false);
        Due.is("the reader stands", NONE, x.doneIn());
        x.start(1, true);
        Due.is("the reader goes on", 36, x.doneIn());
        x.pass(35);
        Due.is("one time is left", 1, x.doneIn());
        x.pass(1);
        Due.is("it is so now", 0, x.doneIn());
        x.start(0, false);
        x.start(1, false);
        Due.is("no clock goes, none is to come", 0, x.doneIn());
        x.push(3);
        Due.is("no clock goes, one waits", NONE, x.doneIn());
    }

    /** In a ring of two places both sides wait for each other; the periods stretch it to the edge. */
    private static void doneInAtItsEdge() {
        GrayPointers x = new GrayPointers();
        x.build(1, true);
        x.setClock(0, 50, 0);
        x.setClock(1, 50, 0);
        for (int word = 0; word < 20; word++) {
            x.push(word);
        }
        int times = x.doneIn();
        Due.isTrue("20 words take some 3000 times: " + times, times > 2000 && times < 5000);
        int passed = 0;
        for (int i = 0; i < times / 500; i++) {
            x.pass(500);
            passed += 500;
            Due.is("doneIn() grows less", times - passed, x.doneIn());
        }
        x.pass(times - passed - 1);
        Due.is("one more", 1, x.doneIn());
        Due.is("pass(1)", 1, x.pass(1));
        Due.is("all are taken", 20, x.count(8));
        Due.is("doneIn() then", 0, x.doneIn());
    }

    private static void leastDepth() {
        GrayPointers x = new GrayPointers();
        int[] bad = {Integer.MIN_VALUE, -1, 0, 501, Integer.MAX_VALUE};
        for (int times : bad) {
            Due.is("leastDepth(" + times + ")", BAD_VALUE, x.leastDepth(times));
        }
        x.setClock(0, 1, 0);
        x.start(1, false);
        int[] least = {1, 1, 1, 2, 2, 3, 3, 3, 3, 4, 4, 4, 4, 4, 4, 4, 4, NONE, NONE, NONE, NONE};
        for (int words = 0; words <= 20; words++) {
            Due.is("leastDepth(500) of " + words, least[words], x.leastDepth(500));
            x.push(words);
        }
        Due.is("in 1 time", 1, x.leastDepth(1));
        Due.is("in 2 times two places are enough", 1, x.leastDepth(2));
        Due.is("in 3 times they are not", 2, x.leastDepth(3));
        Due.is("in 8 times", 3, x.leastDepth(8));
        Due.is("in 16 times", 4, x.leastDepth(16));
        Due.is("in 17 times", NONE, x.leastDepth(17));
        Due.is("nothing changed: k", 2, x.count(1));
        Due.is("nothing changed: words", 20, x.count(5));
        x.start(0, false);
        Due.is("the writer stands", 1, x.leastDepth(500));
    }

    /** The ring that is tried is empty, but its clocks go on from the time of now. */
    private static void leastDepthKeepsTheClocks() {
        GrayPointers x = new GrayPointers();
        x.setClock(0, 10, 0);
        x.start(1, false);
        x.push(1);
        x.push(2);
        x.push(3);
        x.push(4);
        x.push(5);
        x.pass(49);
        Due.is("the ring is full", 4, x.count(4));
        Due.is("one waits", 1, x.count(5));
        Due.is("a ring built anew is empty", 1, x.leastDepth(500));
        x.push(6);
        x.push(7);
        Due.is("ticks at 50 and 60", 1, x.leastDepth(20));
        Due.is("a tick at 70", 2, x.leastDepth(21));
    }

    private static void count() {
        GrayPointers x = new GrayPointers();
        Due.is("count(-1)", BAD_VALUE, x.count(-1));
        Due.is("count(14)", BAD_VALUE, x.count(14));
        x.build(3, false);
        x.setClock(0, 1, 0);
        x.setClock(1, 2, 0);
        x.set(0, 7);
        x.set(1, 8);
        for (int word = 0; word < 12; word++) {
            x.push(word);
        }
        x.pass(7);
        x.type('4');
        x.type('5');
        // The writer acts at 1 to 7; the reader samples 1->3 at 2, sees it at 4, and acts at 6.
        int[] counts = {7, 3, 8, 0, 6, 5, 7, 1, 1, 0, 7, 8, 4, 2};
        for (int what = 0; what < counts.length; what++) {
            Due.is("count(" + what + ")", counts[what], x.count(what));
        }
    }
}
