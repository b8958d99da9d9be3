/** The edges of promises 14 to 20: a method for each sentence, named in its comment. */
final class ToldEdgeTest {
    private static final int UNKNOWN = GrayPointers.UNKNOWN;
    private static final int BAD_VALUE = GrayPointers.BAD_VALUE;
    private static final int NONE = GrayPointers.NONE;

    private ToldEdgeTest() {
    }

    static void run() {
        sidesAndWhats();
        nextTickAtItsEdges();
        ticksAndTornSamplesGoOn();
        placesOfEachDepth();
        ranks();
        agos();
        doneNow();
        doneWithClocksThatStand();
        doneWithWordsInTheRingAlone();
        doneInOneTime();
        doneInChangesNothingAndCountsItself();
        depthJustEnough();
        depthWithinTheTimes();
        depthWithoutWordsOrTicks();
        depthOfTheSameCode();
        depthBuiltAnew();
        countsAtTheirEdges();
    }

    /** side: "UNKNOWN; BAD_VALUE", in this order */
    private static void sidesAndWhats() {
        GrayPointers x = new GrayPointers();
        Due.is("side(-1, 0)", UNKNOWN, x.side(-1, 0));
        Due.is("side(2, 0)", UNKNOWN, x.side(2, 0));
        Due.is("side(-1, -1)", UNKNOWN, x.side(-1, -1));
        Due.is("side(2, 14)", UNKNOWN, x.side(2, 14));
        for (int side = 0; side <= 1; side++) {
            Due.is("side(" + side + ", -1)", BAD_VALUE, x.side(side, -1));
            Due.isTrue("side(" + side + ", 0)", x.side(side, 0) > 0);
            Due.is("side(" + side + ", 13)", 0, x.side(side, 13));
            Due.is("side(" + side + ", 14)", BAD_VALUE, x.side(side, 14));
        }
    }

    /** "11 for the times until its clock ticks the next time (NONE if it stands)" */
    private static void nextTickAtItsEdges() {
        GrayPointers x = new GrayPointers();
        x.setClock(0, 50, 1);
        for (int left = 49; left >= 1; left--) {
            Due.is("the next tick", left, x.side(0, 11));
            x.pass(1);
        }
        Due.is("at the tick", 50, x.side(0, 11));
        x.start(0, false);
        Due.is("it stands", NONE, x.side(0, 11));
        x.setClock(0, 1, 0);
        Due.is("it stands with another period", NONE, x.side(0, 11));
        x.start(0, true);
        Due.is("it goes", 1, x.side(0, 11));
    }

    /** "12 for its ticks so far, 13 for torn samples so far": a new ring and other clocks leave them. */
    private static void ticksAndTornSamplesGoOn() {
        GrayPointers x = Made.even(2, true);
        Made.push(x, 1, 3);
        x.pass(9);
        int[] torn = {3, 3};
        for (int side = 0; side <= 1; side++) {
            Due.is("ticks of " + side, 9, x.side(side, 12));
            Due.is("torn samples of " + side, torn[side], x.side(side, 13));
        }
        x.build(4, false);
        x.setClock(0, 3, 0);
        x.start(1, false);
        for (int side = 0; side <= 1; side++) {
            Due.is("ticks of " + side + " stay", 9, x.side(side, 12));
            Due.is("torn samples of " + side + " stay", torn[side], x.side(side, 13));
        }
        x.pass(3);
        Due.is("ticks go on", 10, x.side(0, 12));
        Due.is("ticks do not go on", 9, x.side(1, 12));
    }

    /** place: "UNKNOWN; BAD_VALUE", in this order; "a place of the ring, from 0" */
    private static void placesOfEachDepth() {
        for (int k = 1; k <= 4; k++) {
            GrayPointers x = new GrayPointers();
            x.build(k, true);
            int depth = 1 << k;
            Due.is("place(-1, 0)", UNKNOWN, x.place(-1, 0));
            Due.is("place(depth, 0)", UNKNOWN, x.place(depth, 0));
            Due.is("place(depth, 2)", UNKNOWN, x.place(depth, 2));
            Due.is("place(-1, -1)", UNKNOWN, x.place(-1, -1));
            int[] places = {0, depth - 1};
            for (int place : places) {
                Due.is("place(" + place + ", -1)", BAD_VALUE, x.place(place, -1));
                Due.is("place(" + place + ", 0)", 0, x.place(place, 0));
                Due.is("place(" + place + ", 1)", NONE, x.place(place, 1));
                Due.is("place(" + place + ", 2)", BAD_VALUE, x.place(place, 2));
            }
        }
        GrayPointers y = Made.after(16, 4, true);
        Due.is("the last of 16 places", 15, y.place(15, 1));
        y.build(3, true);
        Due.is("it is gone", UNKNOWN, y.place(8, 1));
        y.undo();
        Due.is("it is back", 8, y.place(8, 1));
    }

    /** waiting: "BAD_VALUE if rank is negative; NONE if there are not so many" */
    private static void ranks() {
        GrayPointers x = new GrayPointers();
        for (int words = 0; words <= 20; words++) {
            Due.is("waiting(-1) of " + words, BAD_VALUE, x.waiting(-1));
            if (words > 0) {
                Due.is("the first of " + words, 99, x.waiting(0));
                Due.is("the last of " + words, 100 - words, x.waiting(words - 1));
            }
            Due.is("behind " + words, NONE, x.waiting(words));
            x.push(99 - words);
        }
        x.build(2, true);
        Due.is("none waits in a new ring", NONE, x.waiting(0));
    }

    /** taken: "BAD_VALUE if ago is negative; NONE if there are not so many" */
    private static void agos() {
        GrayPointers x = Made.even(4, true);
        Made.push(x, 80, 20);
        x.pass(3);
        for (int words = 0; words <= 20; words++) {
            int kept = Math.min(words, 16);
            Due.is("taken(-1) of " + words, BAD_VALUE, x.taken(-1));
            if (words > 0) {
                Due.is("the latest of " + words, 79 + words, x.taken(0));
                Due.is("the oldest of " + words, 80 + words - kept, x.taken(kept - 1));
            }
            Due.is("behind " + words, NONE, x.taken(kept));
            Due.is("pass(1)", words < 20 ? 1 : 0, x.pass(1));
        }
    }

    /** doneIn: "0 if it is so now" */
    private static void doneNow() {
        GrayPointers x = new GrayPointers();
        Due.is("new", 0, x.doneIn());
        x.start(0, false);
        x.start(1, false);
        Due.is("both stand, none is to come", 0, x.doneIn());
        GrayPointers y = Made.after(40, 1, true);
        Due.is("40 came", 0, y.doneIn());
        y.push(1);
        Due.isTrue("one more waits", y.doneIn() > 0);
        y.build(1, true);
        Due.is("a new ring", 0, y.doneIn());
    }

    /** doneIn: "NONE if it takes more than 5000": it never comes if a side that is needed stands. */
    private static void doneWithClocksThatStand() {
        GrayPointers x = new GrayPointers();
        x.start(0, false);
        x.push(1);
        Due.is("the writer stands, one waits", NONE, x.doneIn());
        x.start(0, true);
        x.start(1, false);
        Due.is("the reader stands, one waits", NONE, x.doneIn());
        x.pass(10);
        Due.is("the reader stands, one is in the ring", NONE, x.doneIn());
        x.start(0, false);
        Due.is("both stand", NONE, x.doneIn());
        x.start(1, true);
        Due.is("only the reader is needed", 32, x.doneIn());
    }

    /** "all words that wait or were put": as many are taken as were put, and none waits. */
    private static void doneWithWordsInTheRingAlone() {
        GrayPointers x = Made.even(2, true);
        x.push(1);
        x.pass(1);
        Due.is("none waits, one is in the ring", 3, x.doneIn());
        x.push(2);
        Due.is("one waits, one is in the ring", 4, x.doneIn());
        x.pass(3);
        Due.is("none waits, one of two came: words", 1, x.count(7));
        Due.is("none waits, one of two came", 1, x.doneIn());
        x.pass(1);
        Due.is("both came: words", 2, x.count(7));
        Due.is("both came", 0, x.doneIn());
    }

    private static void doneInOneTime() {
        GrayPointers x = Made.even(2, true);
        x.push(1);
        int times = x.doneIn();
        Due.is("one word", 4, times);
        for (int left = times; left >= 1; left--) {
            Due.is("so many are left", left, x.doneIn());
            Due.is("pass(1)", left == 1 ? 1 : 0, x.pass(1));
        }
        Due.is("none is left", 0, x.doneIn());
    }

    /** "if nothing else happens": what it tells does come, and telling it changes nothing. */
    private static void doneInChangesNothingAndCountsItself() {
        for (int words = 1; words <= 20; words++) {
            GrayPointers x = new GrayPointers();
            x.build(1, words % 2 == 0);
            x.setClock(0, 50, 49);
            x.setClock(1, 50, words);
            Made.push(x, 0, words);
            String before = Told.all(x);
            int times = x.doneIn();
            Due.same("doneIn() changes nothing", before, Told.all(x));
            int taken = 0;
            for (int left = times - 1; left > 0; left -= Math.min(left, 500)) {
                taken += x.pass(Math.min(left, 500));
            }
            Due.is("a time ahead: all but one of " + words, words - 1, taken);
            Due.is("at that time: the last one of " + words, 1, x.pass(1));
            Due.is("then it is so", 0, x.doneIn());
        }
    }

    /** leastDepth: "a word waits while the writer ticks and does not act" */
    private static void depthJustEnough() {
        int[] words = {0, 1, 2, 3, 4, 5, 8, 9, 16, 17, 20};
        int[] least = {1, 1, 1, 2, 2, 3, 3, 4, 4, NONE, NONE};
        for (int i = 0; i < words.length; i++) {
            GrayPointers x = new GrayPointers();
            x.setClock(0, 1, 0);
            x.start(1, false);
            Made.push(x, 0, words[i]);
            Due.is("the reader stands, " + words[i] + " wait", least[i], x.leastDepth(500));
        }
    }

    /** leastDepth: "at no time of the next so many"; "times: 1 to 500" */
    private static void depthWithinTheTimes() {
        GrayPointers x = new GrayPointers();
        x.setClock(0, 1, 0);
        x.start(1, false);
        Made.push(x, 0, 20);
        int[] times = {0, 1, 2, 3, 4, 5, 8, 9, 16, 17, 500, 501};
        int[] least = {BAD_VALUE, 1, 1, 2, 2, 3, 3, 4, 4, NONE, NONE, BAD_VALUE};
        for (int i = 0; i < times.length; i++) {
            Due.is("leastDepth(" + times[i] + ")", least[i], x.leastDepth(times[i]));
        }
        // The ticks are at 50, 100 .. 500: the eleventh one is beyond the greatest number of times.
        x.setClock(0, 50, 0);
        Due.is("two ticks", 1, x.leastDepth(149));
        Due.is("three ticks", 2, x.leastDepth(150));
        Due.is("eight ticks", 3, x.leastDepth(449));
        Due.is("nine ticks", 4, x.leastDepth(450));
        Due.is("ten ticks", 4, x.leastDepth(500));
        x.setClock(0, 29, 0);
        Due.is("16 ticks", 4, x.leastDepth(492));
        Due.is("17 ticks", NONE, x.leastDepth(493));
    }

    private static void depthWithoutWordsOrTicks() {
        GrayPointers x = Made.after(9, 3, true);
        Due.is("none waits", 1, x.leastDepth(500));
        Made.push(x, 0, 20);
        x.start(1, false);
        x.start(0, false);
        Due.is("the writer stands", 1, x.leastDepth(500));
        x.start(0, true);
        x.setClock(0, 50, 0);
        int first = x.side(0, 11);
        Due.is("ahead of the first tick", 1, x.leastDepth(first - 1));
        Due.is("at the third tick", 2, x.leastDepth(first + 100));
    }

    /** leastDepth: "built anew with this code": in gray code some torn samples show less room. */
    private static void depthOfTheSameCode() {
        for (int gray = 0; gray <= 1; gray++) {
            GrayPointers x = new GrayPointers();
            x.build(2, gray == 1);
            x.setClock(0, 3, 1);
            x.setClock(1, 2, 1);
            Made.push(x, 0, 11);
            Due.is("code " + gray, gray == 1 ? 3 : 2, x.leastDepth(500));
            GrayPointers y = new GrayPointers();
            y.build(1, gray == 1);
            y.setClock(0, 1, 0);
            y.setClock(1, 3, 3);
            Made.push(y, 0, 20);
            Due.is("code " + gray + ", 20 words", gray == 1 ? NONE : 4, y.leastDepth(500));
        }
    }

    /** leastDepth: "of a ring .. built anew": what is in this one does not matter, nor its depth. */
    private static void depthBuiltAnew() {
        for (int k = 1; k <= 4; k++) {
            GrayPointers x = new GrayPointers();
            x.build(k, true);
            x.setClock(0, 1, 0);
            x.start(1, false);
            Made.push(x, 0, 20);
            x.pass(20);
            int waits = x.count(5);
            Due.is("a full ring, words that wait", 20 - (1 << k), waits);
            Due.is("a full ring: it seems full", 1, x.side(0, 9));
            Due.is("a full ring of " + k, waits > 16 ? NONE : waits > 8 ? 4 : waits > 4 ? 3 : 2, x.leastDepth(500));
            Due.is("a full ring, two times", 1, x.leastDepth(2));
            Due.is("k stays", k, x.count(1));
        }
    }

    /** count: "BAD_VALUE" beyond 0 to 13. */
    private static void countsAtTheirEdges() {
        GrayPointers x = new GrayPointers();
        Due.is("count(-1)", BAD_VALUE, x.count(-1));
        Due.is("count(14)", BAD_VALUE, x.count(14));
        x.build(4, false);
        x.setClock(0, 1, 0);
        x.start(1, false);
        Made.push(x, 1, 20);
        x.pass(20);
        for (int i = 0; i < 60; i++) {
            x.type('1');
        }
        Due.is("count(0): the time", 20, x.count(0));
        Due.is("count(1): the greatest k", 4, x.count(1));
        Due.is("count(2): the greatest depth", 16, x.count(2));
        Due.is("count(3): as it is", 0, x.count(3));
        Due.is("count(4): the greatest fill", 16, x.count(4));
        Due.is("count(5): words that wait", 4, x.count(5));
        Due.is("count(6): words put", 16, x.count(6));
        Due.is("count(7): words taken", 0, x.count(7));
        Due.is("count(8): right ones", 0, x.count(8));
        Due.is("count(9): wrong ones", 0, x.count(9));
        Due.is("count(12): the most states", 4, x.count(12));
        Due.is("count(13): the longest text", 60, x.count(13));
    }
}
