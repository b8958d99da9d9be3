/** The edges of promises 1 to 6 and 8: the last values that are allowed, what they answer and do. */
final class CallEdgeTest {
    private static final int BAD_VALUE = GrayPointers.BAD_VALUE;
    private static final int FULL = GrayPointers.FULL;
    private static final int NONE = GrayPointers.NONE;

    private CallEdgeTest() {
    }

    static void run() {
        aNewObjectIsItsOwn();
        buildOfEachDepth();
        buildOfAFullRing();
        buildAtOnceAgain();
        setClockAtItsEdges();
        setClockOfOneOfBoth();
        startAndStop();
        oneTimeAndFiveHundred();
        passWithNothingToDo();
        passTellsWordsTaken();
        theLastTimes();
    }

    /** Promise 1: "an empty ring of the depth 4", and nothing of another object. */
    private static void aNewObjectIsItsOwn() {
        String fresh = Told.all(new GrayPointers());
        GrayPointers x = new GrayPointers();
        GrayPointers y = new GrayPointers();
        Made.full(x);
        Due.same("another object", fresh, Told.all(y));
        Due.same("a newer object", fresh, Told.all(new GrayPointers()));
        Due.is("it has no snapshot", NONE, y.restore());
        Due.is("it has no history", NONE, y.undo());
        Due.is("it has no text", -100, y.pushAll());
    }

    /** Promise 2: "k: 1 to 4". "Returns the depth" */
    private static void buildOfEachDepth() {
        int[] depths = {BAD_VALUE, 2, 4, 8, 16, BAD_VALUE};
        for (int gray = 0; gray <= 1; gray++) {
            for (int k = 0; k <= 5; k++) {
                GrayPointers x = new GrayPointers();
                Due.is("build(" + k + ")", depths[k], x.build(k, gray == 1));
                boolean done = depths[k] > 0;
                Due.is("build(" + k + "): k", done ? k : 2, x.count(1));
                Due.is("build(" + k + "): the code", done ? gray : 1, x.count(3));
                Due.is("build(" + k + "): states", done ? 1 : 0, x.count(12));
            }
        }
    }

    /** Promise 2, from a full ring with all that there can be to a greater, the same and a smaller one. */
    private static void buildOfAFullRing() {
        for (int k = 1; k <= 4; k++) {
            GrayPointers x = Made.after(7, 3, true);
            x.start(1, false);
            Made.push(x, 1, 20);
            x.pass(9);
            Due.is("full", 8, x.count(4));
            Due.is("12 wait", 12, x.count(5));
            int time = x.count(0);
            int ticks = x.side(0, 12);
            int torn = x.side(0, 13);
            Due.is("build(" + k + ")", 1 << k, x.build(k, false));
            for (int what = 4; what <= 9; what++) {
                Due.is("build(" + k + "): count(" + what + ")", 0, x.count(what));
            }
            for (int what = 3; what <= 8; what++) {
                Due.is("build(" + k + "): side(0, " + what + ")", 0, x.side(0, what));
                Due.is("build(" + k + "): side(1, " + what + ")", 0, x.side(1, what));
            }
            Due.is("build(" + k + "): the time stays", time, x.count(0));
            Due.is("build(" + k + "): ticks stay", ticks, x.side(0, 12));
            Due.is("build(" + k + "): torn samples stay", torn, x.side(0, 13));
            Due.is("build(" + k + "): the reader stands still", 0, x.side(1, 2));
            Due.is("build(" + k + "): none waits", NONE, x.waiting(0));
            Due.is("build(" + k + "): none is kept as taken", NONE, x.taken(0));
            Due.is("build(" + k + "): 20 may wait again", 1, x.push(9));
            x.pass(1);
            Due.is("build(" + k + "): numbers begin anew", 0, x.place(0, 1));
        }
    }

    private static void buildAtOnceAgain() {
        GrayPointers x = new GrayPointers();
        x.push(1);
        Due.is("build as it is: the depth", 4, x.build(2, true));
        Due.is("build as it is: none waits", 0, x.count(5));
        Due.is("build as it is again", 4, x.build(2, true));
        Due.is("both are acts", 3, x.count(12));
    }

    /** Promise 3: "period: 1 to 50", "phase: 0 to 49". "Returns the previous period" */
    private static void setClockAtItsEdges() {
        for (int side = 0; side <= 1; side++) {
            int first = side == 0 ? 10 : 14;
            GrayPointers x = new GrayPointers();
            Due.is("period 0", BAD_VALUE, x.setClock(side, 0, 0));
            Due.is("period 51", BAD_VALUE, x.setClock(side, 51, 0));
            Due.is("phase -1", BAD_VALUE, x.setClock(side, 1, -1));
            Due.is("phase 50", BAD_VALUE, x.setClock(side, 1, 50));
            Due.is("the period stays", first, x.side(side, 0));
            Due.is("the least ones", first, x.setClock(side, 1, 0));
            Due.is("the greatest phase", 1, x.setClock(side, 1, 49));
            Due.is("the greatest ones", 1, x.setClock(side, 50, 49));
            Due.is("the greatest period", 50, x.setClock(side, 50, 0));
            Due.is("which it has", 50, x.side(side, 0));
            Due.is("with the least phase", 0, x.side(side, 1));
            Due.is("four acts", 4, x.count(12));
            Due.is("the other side's period", 24 - first, x.side(1 - side, 0));
            Due.is("the other side's phase", 0, x.side(1 - side, 1));
        }
    }

    /** Promise 3: "NONE if both are so already": one of them is not enough. */
    private static void setClockOfOneOfBoth() {
        GrayPointers x = new GrayPointers();
        Due.is("both so already", NONE, x.setClock(0, 10, 0));
        Due.is("another phase alone", 10, x.setClock(0, 10, 14));
        Due.is("another period alone", 10, x.setClock(0, 14, 14));
        Due.is("both so already then", NONE, x.setClock(0, 14, 14));
        Due.is("the other way round", 14, x.setClock(0, 10, 14));
        Due.is("as the other side's is", 14, x.setClock(1, 10, 14));
        Due.is("four acts", 4, x.count(12));
    }

    /** Promise 4: "Returns the time of now"; "NONE if it is so already": at the time 0 it is no error. */
    private static void startAndStop() {
        for (int side = 0; side <= 1; side++) {
            GrayPointers x = new GrayPointers();
            Due.is("it goes already", NONE, x.start(side, true));
            Due.is("stopped at 0", 0, x.start(side, false));
            Due.is("a state", 1, x.count(12));
            Due.is("it stands already", NONE, x.start(side, false));
            Due.is("no state more", 1, x.count(12));
            x.pass(500);
            Due.is("no tick", 0, x.side(side, 12));
            Due.is("started at 500", 500, x.start(side, true));
            Due.is("the other side goes already", NONE, x.start(1 - side, true));
        }
    }

    /** Promise 8: "times: 1 to 500" */
    private static void oneTimeAndFiveHundred() {
        GrayPointers x = new GrayPointers();
        Due.is("pass(0)", BAD_VALUE, x.pass(0));
        Due.is("pass(501)", BAD_VALUE, x.pass(501));
        Due.is("pass(1)", 0, x.pass(1));
        Due.is("one time", 1, x.count(0));
        Due.is("pass(500)", 0, x.pass(500));
        Due.is("501 times", 501, x.count(0));
        Due.is("ticks of the writer", 50, x.side(0, 12));
        Due.is("ticks of the reader", 35, x.side(1, 12));
        Due.is("two acts", 2, x.count(12));
    }

    private static void passWithNothingToDo() {
        GrayPointers x = new GrayPointers();
        x.start(0, false);
        x.start(1, false);
        x.push(5);
        Due.is("both stand: pass(500)", 0, x.pass(500));
        Due.is("both stand: the time", 500, x.count(0));
        Due.is("both stand: it waits", 1, x.count(5));
        Due.is("both stand: a state", 4, x.count(12));
    }

    /** Promise 8: "Returns how many words are taken in them": not those of other times. */
    private static void passTellsWordsTaken() {
        GrayPointers x = Made.even(4, true);
        Made.push(x, 0, 20);
        Due.is("ahead of the first", 0, x.pass(3));
        Due.is("the first", 1, x.pass(1));
        Due.is("eighteen", 18, x.pass(18));
        Due.is("the last", 1, x.pass(1));
        Due.is("behind the last", 0, x.pass(500));
        Due.is("all", 20, x.count(7));
    }

    /** Promise 8: "FULL if the time of now would be more than 1000000"; this needs more than 512 calls. */
    private static void theLastTimes() {
        GrayPointers x = new GrayPointers();
        for (int i = 0; i < 1999; i++) {
            x.pass(500);
        }
        Due.is("the time", 999500, x.count(0));
        Due.is("to 1000000", 0, x.pass(500));
        Due.is("the last time", 1000000, x.count(0));
        Due.is("beyond it", FULL, x.pass(1));
        Due.is("far beyond it", FULL, x.pass(500));
        Due.is("a bad value ahead of it", BAD_VALUE, x.pass(0));
        Made.type(x, ".1");
        Due.is("a text beyond it", FULL, x.pushAll());
        Due.is("the time stays", 1000000, x.count(0));
        x.undo();
        Due.is("undone", 999500, x.count(0));
        x.clearText();
        Made.type(x, ".99,.99,.99,.99,.99,.5");
        Due.is("a text to the last time", 0, x.pushAll());
        Due.is("the last time again", 1000000, x.count(0));
        x.undo();
        x.pass(1);
        Due.is("a text one beyond the last time", FULL, x.pushAll());
        Due.is("500 times are one too many", FULL, x.pass(500));
        Due.is("499 are not", 0, x.pass(499));
    }
}
