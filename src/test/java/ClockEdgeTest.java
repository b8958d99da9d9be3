/** The edges of the terms 'clocks': a method for each sentence, named in its comment. */
final class ClockEdgeTest {
    private static final int NONE = GrayPointers.NONE;

    private ClockEdgeTest() {
    }

    static void run() {
        atFirst();
        for (int side = 0; side <= 1; side++) {
            String at = "side " + side + ": ";
            noTickAtTheTimeZero(at, side);
            theLeastPeriod(at, side);
            theGreatestPeriod(at, side);
            thePhaseGoesRound(at, side);
            aPhaseThatIsAPeriod(at, side);
            aClockThatStands(at, side);
            aClockThatIsSetBetweenTicks(at, side);
        }
        noWordWaits();
        theRingSeemsFullJustTillTheSecondRegisterTells();
        theRingSeemsEmptyJustTillTheSecondRegisterTells();
        aSampleInTheSameTimeAlone();
        bothAreTorn();
        aTickOfOneSideAlone();
    }

    private static GrayPointers withClock(int side, int period, int phase) {
        GrayPointers x = new GrayPointers();
        x.setClock(side, period, phase);
        return x;
    }

    /** "The time of now is 0 at first."; periods, phases; "its clock goes or stands (both go at first)"; registers. */
    private static void atFirst() {
        GrayPointers x = new GrayPointers();
        Due.is("the time at first", 0, x.count(0));
        Due.is("the writer's period", 10, x.side(0, 0));
        Due.is("the reader's period", 14, x.side(1, 0));
        for (int side = 0; side <= 1; side++) {
            Due.is("the phase", 0, x.side(side, 1));
            Due.is("the clock goes", 1, x.side(side, 2));
            Due.is("the first register", 0, x.side(side, 5));
            Due.is("the second register", 0, x.side(side, 6));
            Due.is("no tick", 0, x.side(side, 12));
        }
        x.pass(1);
        Due.is("one time passed", 1, x.count(0));
    }

    /** "It ticks at each time t above 0": at 0 it would by its period and phase. */
    private static void noTickAtTheTimeZero(String at, int side) {
        GrayPointers x = withClock(side, 1, 0);
        Due.is(at + "no tick at 0", 0, x.side(side, 12));
        Due.is(at + "the next one", 1, x.side(side, 11));
        x.pass(1);
        Due.is(at + "a tick at 1", 1, x.side(side, 12));
    }

    /** "a period (1 to 50 ..)": at 1 it ticks at each time. */
    private static void theLeastPeriod(String at, int side) {
        int[] phases = {0, 1, 49};
        for (int phase : phases) {
            GrayPointers x = withClock(side, 1, phase);
            for (int time = 1; time <= 20; time++) {
                x.pass(1);
                Due.is(at + "period 1: ticks", time, x.side(side, 12));
                Due.is(at + "period 1: the next tick", 1, x.side(side, 11));
            }
            x.pass(480);
            Due.is(at + "period 1: 500 ticks", 500, x.side(side, 12));
        }
    }

    /** "a period (1 to 50 ..) and a phase (0 to 49 ..)": the greatest ones. */
    private static void theGreatestPeriod(String at, int side) {
        ticksFirstAt(at, side, 50, 0, 50);
        ticksFirstAt(at, side, 50, 1, 49);
        ticksFirstAt(at, side, 50, 48, 2);
        ticksFirstAt(at, side, 50, 49, 1);
        ticksFirstAt(at, side, 49, 0, 49);
        ticksFirstAt(at, side, 2, 0, 2);
        ticksFirstAt(at, side, 2, 1, 1);
    }

    /** "(t + phase) modulo the period is 0": the phase may be greater than the period. */
    private static void thePhaseGoesRound(String at, int side) {
        ticksFirstAt(at, side, 10, 9, 1);
        ticksFirstAt(at, side, 10, 11, 9);
        ticksFirstAt(at, side, 10, 49, 1);
        ticksFirstAt(at, side, 3, 49, 2);
        ticksFirstAt(at, side, 48, 49, 47);
    }

    private static void aPhaseThatIsAPeriod(String at, int side) {
        ticksFirstAt(at, side, 49, 49, 49);
        ticksFirstAt(at, side, 10, 10, 10);
        ticksFirstAt(at, side, 7, 49, 7);
        ticksFirstAt(at, side, 2, 48, 2);
    }

    private static void ticksFirstAt(String at, int side, int period, int phase, int first) {
        String clock = at + "period " + period + ", phase " + phase + ": ";
        GrayPointers x = withClock(side, period, phase);
        Due.is(clock + "times until the first tick", first, x.side(side, 11));
        if (first > 1) {
            x.pass(first - 1);
        }
        Due.is(clock + "none ahead of it", 0, x.side(side, 12));
        Due.is(clock + "one time is left", 1, x.side(side, 11));
        x.pass(1);
        Due.is(clock + "the first tick", 1, x.side(side, 12));
        Due.is(clock + "times until the second one", period, x.side(side, 11));
        if (period > 1) {
            x.pass(period - 1);
        }
        Due.is(clock + "none between", 1, x.side(side, 12));
        x.pass(1);
        Due.is(clock + "the second tick", 2, x.side(side, 12));
    }

    /** "at which it goes": what it misses does not come later, and its phase stays. */
    private static void aClockThatStands(String at, int side) {
        GrayPointers x = withClock(side, 10, 0);
        x.pass(9);
        x.start(side, false);
        Due.is(at + "it stands: no next tick", NONE, x.side(side, 11));
        x.pass(1);
        Due.is(at + "it stands at 10", 0, x.side(side, 12));
        x.start(side, true);
        Due.is(at + "it goes on: the next tick", 10, x.side(side, 11));
        x.pass(9);
        Due.is(at + "no tick is made up for", 0, x.side(side, 12));
        x.start(side, false);
        x.start(side, true);
        x.pass(1);
        Due.is(at + "it goes at 20", 1, x.side(side, 12));
        x.start(side, false);
        x.pass(500);
        Due.is(at + "it stands for long", 1, x.side(side, 12));
        Due.is(at + "the other one goes", 1, x.side(1 - side, 2));
    }

    private static void aClockThatIsSetBetweenTicks(String at, int side) {
        GrayPointers x = withClock(side, 50, 0);
        x.pass(49);
        x.setClock(side, 50, 49);
        x.pass(1);
        Due.is(at + "the tick at 50 is off", 0, x.side(side, 12));
        Due.is(at + "it is at 51", 1, x.side(side, 11));
        x.setClock(side, 50, 0);
        Due.is(at + "the next is at 100", 50, x.side(side, 11));
        x.setClock(side, 50, 48);
        Due.is(at + "the next is at 52", 2, x.side(side, 11));
    }

    /** "the writer, if a word waits": else it ticks, and samples, but nothing is put and no sample torn. */
    private static void noWordWaits() {
        GrayPointers x = Made.even(2, true);
        x.pass(5);
        Due.is("none waits: ticks", 5, x.side(0, 12));
        Due.is("none waits: the pointer", 0, x.side(0, 3));
        Due.is("none waits: the reader's torn samples", 0, x.side(1, 13));
        Due.is("none waits: no number", NONE, x.place(0, 1));
        x.push(9);
        x.pass(1);
        Due.is("one waited: the pointer", 1, x.side(0, 3));
        Due.is("one waited: none is left", 0, x.count(5));
        x.pass(1);
        Due.is("one waited: the pointer stays", 1, x.side(0, 3));
        Due.is("one waited: torn samples", 1, x.side(1, 13));
    }

    /** "To the writer the ring seems full if the pointer of its second register is its own one plus the depth" */
    private static void theRingSeemsFullJustTillTheSecondRegisterTells() {
        for (int k = 1; k <= 4; k++) {
            int depth = 1 << k;
            GrayPointers x = Made.even(k, true);
            x.setClock(1, 50, 0);
            Made.push(x, 0, depth + 1);
            x.pass(depth);
            int toHundred = 100 - depth;
            Due.is("full of " + depth + ": pass(..)", 0, x.pass(toHundred));
            Due.is("full of " + depth + ": one waits", 1, x.count(5));
            Due.is("full of " + depth + ": pass(50)", 1, x.pass(50));
            Due.is("full of " + depth + ": it has room at 150", depth - 1, x.count(4));
            Due.is("full of " + depth + ": but seems full", 1, x.side(0, 9));
            x.pass(1);
            Due.is("full of " + depth + ": and at 151", 1, x.side(0, 9));
            Due.is("full of " + depth + ": one waits at 151", 1, x.count(5));
            x.pass(1);
            Due.is("full of " + depth + ": not at 152", 0, x.side(0, 9));
            Due.is("full of " + depth + ": one waits at 152", 1, x.count(5));
            x.pass(1);
            Due.is("full of " + depth + ": none at 153", 0, x.count(5));
            Due.is("full of " + depth + ": it goes to the first place", depth, x.place(0, 1));
        }
    }

    /** "to the reader it seems empty if the pointer of its second register is its own one" */
    private static void theRingSeemsEmptyJustTillTheSecondRegisterTells() {
        GrayPointers x = Made.even(2, true);
        x.setClock(0, 50, 0);
        x.start(1, false);
        x.push(9);
        x.pass(50);
        x.start(1, true);
        Due.is("empty: the fill", 1, x.count(4));
        for (int ticks = 0; ticks <= 1; ticks++) {
            Due.is("empty: it seems so after " + ticks, 1, x.side(1, 9));
            Due.is("empty: pass(1)", 0, x.pass(1));
        }
        Due.is("empty: not after 2", 0, x.side(1, 9));
        Due.is("empty: pass(1) then", 1, x.pass(1));
        Due.is("empty: it seems so again", 1, x.side(1, 9));
        Due.is("empty: pass(9)", 0, x.pass(9));
    }

    /** "but if the other one acts in this time, too, the sample is torn": not a time ahead, nor one behind. */
    private static void aSampleInTheSameTimeAlone() {
        // The writer acts at 10 and 20; by its phase the reader ticks at 9 and 19, at 10 and 20, or at 11 and 21.
        samplesAround(1, new int[] {1, 1, 1}, new int[] {0, 0, 0});
        samplesAround(0, new int[] {0, 3, 3}, new int[] {1, 2, 2});
        samplesAround(9, new int[] {1, 1, 3}, new int[] {0, 0, 0});
    }

    private static void samplesAround(int phase, int[] samples, int[] torn) {
        GrayPointers x = new GrayPointers();
        x.setClock(1, 10, phase);
        x.push(5);
        x.push(6);
        x.pass(18);
        for (int i = 0; i < samples.length; i++) {
            x.pass(1);
            String at = "the reader's phase " + phase + " at " + (19 + i) + ": ";
            Due.is(at + "the write pointer", i == 0 ? 1 : 2, x.side(0, 3));
            Due.is(at + "the first register", samples[i], x.side(1, 5));
            Due.is(at + "torn samples", torn[i], x.side(1, 13));
        }
    }

    /** In one time both act and both samples are torn. */
    private static void bothAreTorn() {
        GrayPointers x = Made.even(2, true);
        Made.push(x, 10, 4);
        x.pass(3);
        Due.is("both: none taken yet", 0, x.count(7));
        int tornToWriter = x.side(0, 13);
        int tornToReader = x.side(1, 13);
        Due.is("both: pass(1)", 1, x.pass(1));
        Due.is("both: the write pointer", 4, x.side(0, 3));
        Due.is("both: torn to the writer", tornToWriter + 1, x.side(0, 13));
        Due.is("both: torn to the reader", tornToReader + 1, x.side(1, 13));
        Due.is("both: the writer's sample of 0 to 1", 0, x.side(0, 5));
        Due.is("both: the reader's sample of 3 to 4", 2, x.side(1, 5));
    }

    /** "Then each side that ticks": the registers of the other one stay. */
    private static void aTickOfOneSideAlone() {
        GrayPointers x = Made.even(2, true);
        x.start(1, false);
        Made.push(x, 10, 3);
        x.pass(3);
        Due.is("alone: the write pointer", 3, x.side(0, 3));
        Due.is("alone: the reader's first register", 0, x.side(1, 5));
        Due.is("alone: the reader's second register", 0, x.side(1, 6));
        x.start(0, false);
        x.start(1, true);
        x.pass(1);
        Due.is("alone: the first register then", 2, x.side(1, 5));
        Due.is("alone: the second register then", 0, x.side(1, 6));
        x.pass(1);
        Due.is("alone: the second register at last", 2, x.side(1, 6));
        x.pass(3);
        Due.is("alone: all taken", 3, x.count(7));
        Due.is("alone: the writer's registers", 0, x.side(0, 5) + x.side(0, 6));
        x.start(0, true);
        x.pass(1);
        Due.is("alone: the writer samples", 2, x.side(0, 5));
        Due.is("alone: torn samples of both", 0, x.side(0, 13) + x.side(1, 13));
    }
}
