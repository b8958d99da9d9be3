import java.util.function.Consumer;

/** The section 'errors': for each call that can be refused, its answer, and that nothing has changed. */
final class RefusedTest {
    private static final int UNKNOWN = GrayPointers.UNKNOWN;
    private static final int BAD_VALUE = GrayPointers.BAD_VALUE;
    private static final int FULL = GrayPointers.FULL;
    private static final int NONE = GrayPointers.NONE;

    private static final int[] NO_SIDES = {Integer.MIN_VALUE, -1, 2, 3, Integer.MAX_VALUE};
    private static final int[] NO_TIMES = {Integer.MIN_VALUE, -1, 0, 501, Integer.MAX_VALUE};

    private RefusedTest() {
    }

    static void run() {
        Consumer<GrayPointers> fresh = x -> { };
        refusedAnywhere("new: ", fresh);
        refusedAnywhere("busy: ", Made::busy);
        refusedAnywhere("full: ", Made::full);
        refusedTold("new: ", fresh);
        refusedTold("busy: ", Made::busy);
        refusedTold("full: ", Made::full);
        refusedWhenNew(fresh);
        refusedWhenBusy();
        refusedWhenFull();
        refusedTexts();
        whatOnlyTellsChangesNothing();
    }

    private static void refusedAnywhere(String at, Consumer<GrayPointers> begin) {
        int[] noDepths = {Integer.MIN_VALUE, -1, 0, 5, Integer.MAX_VALUE};
        for (int k : noDepths) {
            Refused.is(at + "build(" + k + ", true)", BAD_VALUE, begin, x -> x.build(k, true));
            Refused.is(at + "build(" + k + ", false)", BAD_VALUE, begin, x -> x.build(k, false));
        }
        for (int side : NO_SIDES) {
            Refused.is(at + "setClock(" + side + ", 5, 5)", UNKNOWN, begin, x -> x.setClock(side, 5, 5));
            Refused.is(at + "setClock(" + side + ", 0, 50)", UNKNOWN, begin, x -> x.setClock(side, 0, 50));
            Refused.is(at + "start(" + side + ", true)", UNKNOWN, begin, x -> x.start(side, true));
            Refused.is(at + "start(" + side + ", false)", UNKNOWN, begin, x -> x.start(side, false));
            Refused.is(at + "set(" + side + ", 6)", BAD_VALUE, begin, x -> x.set(side, 6));
        }
        for (int side = 0; side <= 1; side++) {
            clocksAndSettingsRefused(at, begin, side);
        }
        int[] noWords = {Integer.MIN_VALUE, -1, 100, Integer.MAX_VALUE};
        for (int word : noWords) {
            Refused.is(at + "push(" + word + ")", BAD_VALUE, begin, x -> x.push(word));
        }
        for (int times : NO_TIMES) {
            Refused.is(at + "pass(" + times + ")", BAD_VALUE, begin, x -> x.pass(times));
        }
    }

    private static void clocksAndSettingsRefused(String at, Consumer<GrayPointers> begin, int side) {
        int[] noPeriods = {Integer.MIN_VALUE, -1, 0, 51, Integer.MAX_VALUE};
        int[] noPhases = {Integer.MIN_VALUE, -1, 50, Integer.MAX_VALUE};
        int[] noSettings = {Integer.MIN_VALUE, -1, 16, Integer.MAX_VALUE};
        for (int period : noPeriods) {
            Refused.is(at + "setClock(" + side + ", " + period + ", 5)", BAD_VALUE, begin,
                x -> x.setClock(side, period, 5));
        }
        for (int phase : noPhases) {
            Refused.is(at + "setClock(" + side + ", 5, " + phase + ")", BAD_VALUE, begin,
                x -> x.setClock(side, 5, phase));
            Refused.is(at + "setClock(" + side + ", its period, " + phase + ")", BAD_VALUE, begin,
                x -> x.setClock(side, x.side(side, 0), phase));
        }
        for (int value : noSettings) {
            Refused.is(at + "set(" + side + ", " + value + ")", BAD_VALUE, begin, x -> x.set(side, value));
        }
        Refused.is(at + "setClock(" + side + ") as it is", NONE, begin,
            x -> x.setClock(side, x.side(side, 0), x.side(side, 1)));
        Refused.is(at + "start(" + side + ") as it is", NONE, begin, x -> x.start(side, x.side(side, 2) == 1));
        Refused.is(at + "set(" + side + ") as it is", NONE, begin, x -> x.set(side, x.count(10 + side)));
    }

    private static void refusedTold(String at, Consumer<GrayPointers> begin) {
        int[] noWhats = {Integer.MIN_VALUE, -1, 14, Integer.MAX_VALUE};
        for (int side : NO_SIDES) {
            Refused.is(at + "side(" + side + ", 0)", UNKNOWN, begin, x -> x.side(side, 0));
            Refused.is(at + "side(" + side + ", 14)", UNKNOWN, begin, x -> x.side(side, 14));
        }
        for (int what : noWhats) {
            Refused.is(at + "side(0, " + what + ")", BAD_VALUE, begin, x -> x.side(0, what));
            Refused.is(at + "side(1, " + what + ")", BAD_VALUE, begin, x -> x.side(1, what));
            Refused.is(at + "place(0, " + what + ")", BAD_VALUE, begin, x -> x.place(0, what));
            Refused.is(at + "place(-1, " + what + ")", UNKNOWN, begin, x -> x.place(-1, what));
            Refused.is(at + "place(depth, " + what + ")", UNKNOWN, begin, x -> x.place(x.count(2), what));
            Refused.is(at + "count(" + what + ")", BAD_VALUE, begin, x -> x.count(what));
        }
        Refused.is(at + "place(0, 2)", BAD_VALUE, begin, x -> x.place(0, 2));
        Refused.is(at + "place(the last one, 2)", BAD_VALUE, begin, x -> x.place(x.count(2) - 1, 2));
        Refused.is(at + "place(16, 0)", UNKNOWN, begin, x -> x.place(16, 0));
        Refused.is(at + "place(least, 1)", UNKNOWN, begin, x -> x.place(Integer.MIN_VALUE, 1));
        Refused.is(at + "place(most, 1)", UNKNOWN, begin, x -> x.place(Integer.MAX_VALUE, 1));
        Refused.is(at + "waiting(-1)", BAD_VALUE, begin, x -> x.waiting(-1));
        Refused.is(at + "waiting(least)", BAD_VALUE, begin, x -> x.waiting(Integer.MIN_VALUE));
        Refused.is(at + "waiting(so many)", NONE, begin, x -> x.waiting(x.count(5)));
        Refused.is(at + "waiting(most)", NONE, begin, x -> x.waiting(Integer.MAX_VALUE));
        Refused.is(at + "taken(-1)", BAD_VALUE, begin, x -> x.taken(-1));
        Refused.is(at + "taken(least)", BAD_VALUE, begin, x -> x.taken(Integer.MIN_VALUE));
        Refused.is(at + "taken(so many)", NONE, begin, x -> x.taken(x.count(7)));
        Refused.is(at + "taken(most)", NONE, begin, x -> x.taken(Integer.MAX_VALUE));
        for (int times : NO_TIMES) {
            Refused.is(at + "leastDepth(" + times + ")", BAD_VALUE, begin, x -> x.leastDepth(times));
        }
    }

    private static void refusedWhenNew(Consumer<GrayPointers> fresh) {
        Refused.is("new: undo()", NONE, fresh, x -> x.undo());
        Refused.is("new: restore()", NONE, fresh, x -> x.restore());
        Refused.is("new: pushAll()", -100, fresh, x -> x.pushAll());
        Refused.is("new: place(3, 1)", NONE, fresh, x -> x.place(3, 1));
    }

    private static void refusedWhenBusy() {
        Refused.is("busy: the reader stands: doneIn()", NONE, Made::busy, x -> x.doneIn());
        Refused.is("busy: the reader stands: side(1, 11)", NONE, Made::busy, x -> x.side(1, 11));
        Consumer<GrayPointers> undone = x -> {
            Made.busy(x);
            for (int i = 0; i < 4; i++) {
                x.undo();
            }
        };
        Refused.is("busy: undo() of none", NONE, undone, x -> x.undo());
        Consumer<GrayPointers> crowded = x -> {
            x.setClock(0, 1, 0);
            x.start(1, false);
            Made.push(x, 0, 20);
        };
        Refused.is("busy: no depth is enough", NONE, crowded, x -> x.leastDepth(17));
    }

    private static void refusedWhenFull() {
        Refused.is("full: push(0)", FULL, Made::full, x -> x.push(0));
        Refused.is("full: push(99)", FULL, Made::full, x -> x.push(99));
        Refused.is("full: push(100)", BAD_VALUE, Made::full, x -> x.push(100));
        Refused.is("full: pushAll()", FULL, Made::full, x -> x.pushAll());
        Refused.is("full: type(',')", FULL, Made::full, x -> x.type(','));
        Refused.is("full: type((char) 0)", FULL, Made::full, x -> x.type((char) 0));
        Refused.is("full: waiting(20)", NONE, Made::full, x -> x.waiting(20));
        Refused.is("full: both stand: doneIn()", NONE, Made::full, x -> x.doneIn());
        Refused.is("full: the writer stands: side(0, 11)", NONE, Made::full, x -> x.side(0, 11));
    }

    /** The first parts of each text could be done, so that it shows if they were. */
    private static void refusedTexts() {
        refusedText(".9,4,", -105);
        refusedText("5x2,.30,00", -109);
        refusedText(".9,5x2,100", -109);
        refusedText("7,.99,6x1", -108);
        refusedText("7,.99,.0", -107);
        refusedText("7,.40,x", -106);
        refusedText("2x9,.40,3x9,4x9", FULL);
        refusedText("2x9,.1,3x9,4x9,.99", FULL);
    }

    private static void refusedText(String text, int due) {
        Refused.is("pushAll() of \"" + text + "\"", due, x -> {
            x.set(1, 9);
            x.keep();
            x.push(50);
            Made.type(x, text);
        }, x -> x.pushAll());
        Refused.is("busy: pushAll() of \"" + text + "\"", due, x -> {
            Made.busy(x);
            x.clearText();
            Made.type(x, text);
        }, x -> x.pushAll());
    }

    private static void whatOnlyTellsChangesNothing() {
        for (int what = 0; what <= 13; what++) {
            int asked = what;
            Refused.changesNothing("side(0, " + what + ")", Made::busy, x -> x.side(0, asked));
            Refused.changesNothing("side(1, " + what + ")", Made::busy, x -> x.side(1, asked));
            Refused.changesNothing("count(" + what + ")", Made::busy, x -> x.count(asked));
        }
        Refused.changesNothing("place(7, 0)", Made::busy, x -> x.place(7, 0));
        Refused.changesNothing("place(0, 1)", Made::busy, x -> x.place(0, 1));
        Refused.changesNothing("waiting(0)", Made::busy, x -> x.waiting(0));
        Refused.changesNothing("taken(0)", Made::busy, x -> x.taken(0));
        Refused.changesNothing("leastDepth(1)", Made::busy, x -> x.leastDepth(1));
        Refused.changesNothing("leastDepth(500)", Made::busy, x -> x.leastDepth(500));
        Consumer<GrayPointers> goingOn = x -> {
            Made.busy(x);
            x.start(1, true);
        };
        Refused.changesNothing("doneIn()", goingOn, x -> x.doneIn());
    }
}
