/** Promises 1 to 5: a new object, build, setClock, start, set. */
final class RingTest {
    private static final int UNKNOWN = GrayPointers.UNKNOWN;
    private static final int BAD_VALUE = GrayPointers.BAD_VALUE;
    private static final int NONE = GrayPointers.NONE;

    private RingTest() {
    }

    static void run() {
        aNewObject();
        buildEmptiesTheRing();
        buildKeepsTimeAndClocks();
        buildRefuses();
        setClock();
        clocksTickByPeriodAndPhase();
        start();
        set();
    }

    private static void aNewObject() {
        GrayPointers x = new GrayPointers();
        int[] counts = {0, 2, 4, 1, 0, 0, 0, 0, 0, 0, 1, 1, 0, 0};
        for (int what = 0; what < counts.length; what++) {
            Due.is("new: count(" + what + ")", counts[what], x.count(what));
        }
        int[] writer = {10, 0, 1, 0, 0, 0, 0, 0, 0, 0, 0, 10, 0, 0};
        int[] reader = {14, 0, 1, 0, 0, 0, 0, 0, 0, 1, 1, 14, 0, 0};
        for (int what = 0; what < writer.length; what++) {
            Due.is("new: side(0, " + what + ")", writer[what], x.side(0, what));
            Due.is("new: side(1, " + what + ")", reader[what], x.side(1, what));
        }
        for (int place = 0; place < 4; place++) {
            Due.is("new: place(" + place + ", 0)", 0, x.place(place, 0));
            Due.is("new: place(" + place + ", 1)", NONE, x.place(place, 1));
        }
        Due.is("new: place(4, 0)", UNKNOWN, x.place(4, 0));
        Due.is("new: waiting(0)", NONE, x.waiting(0));
        Due.is("new: taken(0)", NONE, x.taken(0));
        Due.is("new: undo()", NONE, x.undo());
        Due.is("new: restore()", NONE, x.restore());
        Due.is("new: pushAll()", -100, x.pushAll());
        Due.is("new: doneIn()", 0, x.doneIn());
    }

    private static void buildEmptiesTheRing() {
        GrayPointers x = usedRing();
        Due.is("build: words came ahead of it", 3, x.count(7));
        Due.is("build(3, false)", 8, x.build(3, false));
        int[] whats = {4, 5, 6, 7, 8, 9};
        for (int what : whats) {
            Due.is("build: count(" + what + ")", 0, x.count(what));
        }
        Due.is("build: k", 3, x.count(1));
        Due.is("build: depth", 8, x.count(2));
        Due.is("build: code", 0, x.count(3));
        for (int side = 0; side <= 1; side++) {
            for (int what = 3; what <= 8; what++) {
                Due.is("build: side(" + side + ", " + what + ")", 0, x.side(side, what));
            }
        }
        for (int place = 0; place < 8; place++) {
            Due.is("build: place(" + place + ", 0)", 0, x.place(place, 0));
            Due.is("build: place(" + place + ", 1)", NONE, x.place(place, 1));
        }
        Due.is("build: waiting(0)", NONE, x.waiting(0));
        Due.is("build: taken(0)", NONE, x.taken(0));
        x.push(77);
        x.pass(1);
        Due.is("build: the first word has the number 0 anew", 0, x.place(0, 1));
        x.pass(5);
        Due.is("build: it comes right", 77, x.taken(0));
        Due.is("build: no other was kept", NONE, x.taken(1));
    }

    private static void buildKeepsTimeAndClocks() {
        GrayPointers x = usedRing();
        x.set(0, 3);
        x.set(1, 2);
        x.start(1, false);
        int ticks = x.side(0, 12);
        int torn = x.side(1, 13);
        Due.isTrue("build: there were ticks and torn samples", ticks > 0 && torn > 0);
        Due.is("build: four states are there", 4, x.count(12));
        Due.is("build(1, true)", 2, x.build(1, true));
        Due.is("build: an act, the oldest state of four is dropped", 4, x.count(12));
        Due.is("build: time", 6, x.count(0));
        Due.is("build: setting 0", 3, x.count(10));
        Due.is("build: setting 1", 2, x.count(11));
        Due.is("build: period", 1, x.side(1, 0));
        Due.is("build: the reader stands", 0, x.side(1, 2));
        Due.is("build: ticks", ticks, x.side(0, 12));
        Due.is("build: torn samples", torn, x.side(1, 13));
        x.undo();
        Due.is("build: undone", 4, x.count(2));
        Due.is("build: the words are back", 3, x.count(7));
        Due.is("build: build as it is already", 4, x.build(2, true));
    }

    /** Both tick at each time; of four words three have been taken after 6 times. */
    private static GrayPointers usedRing() {
        GrayPointers x = new GrayPointers();
        x.setClock(0, 1, 0);
        x.setClock(1, 1, 0);
        x.push(5);
        x.push(6);
        x.push(7);
        x.pass(5);
        x.push(8);
        x.start(0, false);
        x.pass(1);
        x.start(0, true);
        return x;
    }

    private static void buildRefuses() {
        GrayPointers x = new GrayPointers();
        int[] bad = {Integer.MIN_VALUE, -1, 0, 5, 32, Integer.MAX_VALUE};
        for (int k : bad) {
            Due.is("build(" + k + ", true)", BAD_VALUE, x.build(k, true));
        }
        Due.is("build refused: no state", 0, x.count(12));
        Due.is("build refused: depth", 4, x.count(2));
        for (int k = 1; k <= 4; k++) {
            Due.is("build(" + k + ", true)", 1 << k, x.build(k, true));
            Due.is("build: a state", k, x.count(12));
        }
        Due.is("build as it is already is an act", 16, x.build(4, true));
    }

    private static void setClock() {
        GrayPointers x = new GrayPointers();
        Due.is("setClock(-1, 0, 0)", UNKNOWN, x.setClock(-1, 0, 0));
        Due.is("setClock(2, 5, 0)", UNKNOWN, x.setClock(2, 5, 0));
        Due.is("setClock(0, 0, 0)", BAD_VALUE, x.setClock(0, 0, 0));
        Due.is("setClock(0, 51, 0)", BAD_VALUE, x.setClock(0, 51, 0));
        Due.is("setClock(0, 10, -1)", BAD_VALUE, x.setClock(0, 10, -1));
        Due.is("setClock(0, 10, 50)", BAD_VALUE, x.setClock(0, 10, 50));
        Due.is("setClock(0, 10, 0)", NONE, x.setClock(0, 10, 0));
        Due.is("setClock(1, 14, 0)", NONE, x.setClock(1, 14, 0));
        Due.is("setClock refused: no state", 0, x.count(12));
        Due.is("setClock(0, 50, 49)", 10, x.setClock(0, 50, 49));
        Due.is("setClock: a state", 1, x.count(12));
        Due.is("setClock: period", 50, x.side(0, 0));
        Due.is("setClock: phase", 49, x.side(0, 1));
        Due.is("setClock: the reader's stays", 14, x.side(1, 0));
        Due.is("setClock(0, 50, 48)", 50, x.setClock(0, 50, 48));
        Due.is("setClock(0, 1, 48)", 50, x.setClock(0, 1, 48));
        Due.is("setClock(1, 14, 1)", 14, x.setClock(1, 14, 1));
        Due.is("setClock: the reader's phase", 1, x.side(1, 1));
        x.undo();
        Due.is("setClock undone", 0, x.side(1, 1));
    }

    private static void clocksTickByPeriodAndPhase() {
        GrayPointers x = new GrayPointers();
        x.setClock(0, 7, 3);
        x.setClock(1, 5, 49);
        int writer = 0;
        int reader = 0;
        for (int time = 1; time <= 80; time++) {
            x.pass(1);
            writer += (time + 3) % 7 == 0 ? 1 : 0;
            reader += (time + 49) % 5 == 0 ? 1 : 0;
            Due.is("the writer's ticks at " + time, writer, x.side(0, 12));
            Due.is("the reader's ticks at " + time, reader, x.side(1, 12));
        }
    }

    private static void start() {
        GrayPointers x = new GrayPointers();
        Due.is("start(-1, true)", UNKNOWN, x.start(-1, true));
        Due.is("start(2, false)", UNKNOWN, x.start(2, false));
        Due.is("start(0, true)", NONE, x.start(0, true));
        Due.is("start refused: no state", 0, x.count(12));
        x.pass(13);
        Due.is("start(1, false)", 13, x.start(1, false));
        Due.is("start(1, false) again", NONE, x.start(1, false));
        Due.is("start: the reader stands", 0, x.side(1, 2));
        Due.is("start: the writer goes", 1, x.side(0, 2));
        Due.is("start: a state", 2, x.count(12));
        x.pass(37);
        Due.is("start: no tick of the reader", 0, x.side(1, 12));
        Due.is("start: ticks of the writer", 5, x.side(0, 12));
        Due.is("start(1, true)", 50, x.start(1, true));
        x.pass(6);
        Due.is("start: it ticks at 56 again", 1, x.side(1, 12));
    }

    private static void set() {
        GrayPointers x = new GrayPointers();
        int[] badSettings = {-1, 2, Integer.MAX_VALUE};
        for (int which : badSettings) {
            Due.is("set(" + which + ", 0)", BAD_VALUE, x.set(which, 0));
        }
        Due.is("set(0, -1)", BAD_VALUE, x.set(0, -1));
        Due.is("set(1, 16)", BAD_VALUE, x.set(1, 16));
        Due.is("set(0, 1)", NONE, x.set(0, 1));
        Due.is("set(1, 1)", NONE, x.set(1, 1));
        Due.is("set refused: no state", 0, x.count(12));
        Due.is("set(0, 15)", 1, x.set(0, 15));
        Due.is("set(1, 0)", 1, x.set(1, 0));
        Due.is("set(0, 0)", 15, x.set(0, 0));
        Due.is("set(1, 15)", 0, x.set(1, 15));
        Due.is("set: setting 0", 0, x.count(10));
        Due.is("set: setting 1", 15, x.count(11));
        Due.is("set: states", 4, x.count(12));
        x.undo();
        Due.is("set undone", 0, x.count(11));
    }
}
