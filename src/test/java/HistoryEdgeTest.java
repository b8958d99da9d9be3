import java.util.ArrayList;
import java.util.List;
import java.util.function.ToIntFunction;

/** The edges of the terms 'history' and of promises 11 to 13: a method for each sentence. */
final class HistoryEdgeTest {
    private static final int NONE = GrayPointers.NONE;

    private HistoryEdgeTest() {
    }

    static void run() {
        theEmptyHistory();
        fourStates();
        theFifthDropsTheOldest();
        theRowOfStatesGoesRound();
        eachActRecordsOneState();
        anActThatChangesNothingRecordsOne();
        whatIsNoActRecordsNone();
        undoIsNoAct();
        oneSnapshot();
        theSnapshotStays();
        restoreIsAnAct();
        restoreWithAFullHistory();
        whatIsNoPartOfAState();
        statesAreNotMixed();
    }

    /** "NONE if the history is empty" */
    private static void theEmptyHistory() {
        GrayPointers x = new GrayPointers();
        Due.is("new: states", 0, x.count(12));
        Due.is("new: undo()", NONE, x.undo());
        Due.is("new: undo() again", NONE, x.undo());
        x.pass(1);
        Due.is("one act: states", 1, x.count(12));
        Due.is("one act: undo()", 0, x.undo());
        Due.is("one act undone: undo()", NONE, x.undo());
        Due.is("one act undone: the time", 0, x.count(0));
    }

    /** "A history of at most 4 states is kept": four acts are undone, to the state of a new object. */
    private static void fourStates() {
        for (int acts = 1; acts <= 4; acts++) {
            GrayPointers x = new GrayPointers();
            Made.push(x, 1, acts);
            Due.is("states of " + acts, acts, x.count(12));
            for (int left = acts - 1; left >= 0; left--) {
                Due.is("undo() to " + left, left, x.undo());
                Due.is("words that wait", left, x.count(5));
            }
            Due.is("undo() of none", NONE, x.undo());
            Due.same("as a new object", Told.all(new GrayPointers()), Told.all(x));
        }
    }

    /** "when one more is recorded, the oldest one is dropped" */
    private static void theFifthDropsTheOldest() {
        for (int acts = 5; acts <= 13; acts++) {
            GrayPointers x = new GrayPointers();
            Made.push(x, 1, acts);
            Due.is("states of " + acts, 4, x.count(12));
            for (int left = 3; left >= 0; left--) {
                Due.is("undo() of " + acts, left, x.undo());
                Due.is("words that wait of " + acts, acts - 4 + left, x.count(5));
            }
            Due.is("undo() of none, of " + acts, NONE, x.undo());
            Due.is("the oldest ones are dropped", acts - 4, x.count(5));
        }
    }

    /** Acts and undos by turns, against a row that holds the words that wait in each state. */
    private static void theRowOfStatesGoesRound() {
        GrayPointers x = new GrayPointers();
        List<Integer> states = new ArrayList<>();
        int now = 0;
        int[] turns = {3, -1, 4, -2, 3, -4, 1, -1, 2, -3, 5, -5, 4, -4, 4, -1, 2, -3};
        for (int turn : turns) {
            for (int i = 0; i < Math.abs(turn); i++) {
                if (turn > 0) {
                    states.add(now);
                    if (states.size() > 4) {
                        states.remove(0);
                    }
                    now++;
                    Due.is("round: push", now, x.push(now));
                } else if (states.isEmpty()) {
                    Due.is("round: undo() of none", NONE, x.undo());
                } else {
                    now = states.remove(states.size() - 1);
                    Due.is("round: undo()", states.size(), x.undo());
                }
                Due.is("round: words that wait", now, x.count(5));
                Due.is("round: states", states.size(), x.count(12));
            }
        }
    }

    /** "Each call of a method that is described as an act, and returns no error and not NONE" */
    private static void eachActRecordsOneState() {
        records("build", x -> x.build(1, false));
        records("setClock, a period", x -> x.setClock(0, 9, 0));
        records("setClock, a phase", x -> x.setClock(1, 14, 1));
        records("start", x -> x.start(0, false));
        records("set", x -> x.set(1, 0));
        records("push", x -> x.push(0));
        records("pass", x -> x.pass(500));
        records("pushAll", x -> x.pushAll());
        records("restore", x -> x.restore());
    }

    private static void records(String what, ToIntFunction<GrayPointers> act) {
        GrayPointers x = new GrayPointers();
        x.keep();
        Made.type(x, "3x2,.20,4");
        x.push(8);
        x.pass(33);
        String before = Told.state(x);
        Due.isTrue(what + ": is done", act.applyAsInt(x) >= 0);
        Due.is(what + ": a state", 3, x.count(12));
        Due.isTrue(what + ": changes something", !Told.state(x).equals(before));
        Due.is(what + ": undo()", 2, x.undo());
        Due.same(what + ": the state that was before it", before, Told.state(x));
    }

    private static void anActThatChangesNothingRecordsOne() {
        GrayPointers x = new GrayPointers();
        String fresh = Told.state(x);
        Due.is("build as it is", 4, x.build(2, true));
        Due.is("build as it is: a state", 1, x.count(12));
        x.keep();
        Due.is("restore as it is", 0, x.restore());
        Due.is("restore as it is: a state", 2, x.count(12));
        Due.same("nothing changed", fresh, Told.state(x));
    }

    private static void whatIsNoActRecordsNone() {
        GrayPointers x = new GrayPointers();
        x.push(1);
        x.push(2);
        x.type('5');
        x.keep();
        x.clearText();
        x.doneIn();
        x.leastDepth(1);
        for (int what = 0; what <= 13; what++) {
            x.side(0, what);
            x.side(1, what);
            x.count(what);
        }
        x.place(0, 0);
        x.waiting(0);
        x.taken(0);
        Due.is("no act", 2, x.count(12));
        Due.is("undo() of the last act", 1, x.undo());
        Due.is("it was a push", 1, x.count(5));
    }

    /** An undo can't be undone: it removes the state and records none. */
    private static void undoIsNoAct() {
        GrayPointers x = new GrayPointers();
        x.push(1);
        x.push(2);
        x.push(3);
        Due.is("undo()", 2, x.undo());
        Due.is("undo() goes on", 1, x.undo());
        Due.is("one waits", 1, x.count(5));
        x.push(4);
        Due.is("an act behind it", 2, x.count(12));
        Due.is("undo() of that", 1, x.undo());
        Due.is("what was undone is gone", NONE, x.waiting(1));
    }

    /** "There is one snapshot, empty at first."; "in place of the one that was" */
    private static void oneSnapshot() {
        GrayPointers x = new GrayPointers();
        Due.is("empty at first", NONE, x.restore());
        x.pass(5);
        Due.is("empty still", NONE, x.restore());
        Due.is("keep()", 5, x.keep());
        x.pass(5);
        Due.is("keep() in its place", 10, x.keep());
        x.pass(5);
        Due.is("restore() of the latest one", 10, x.restore());
        x.undo();
        Due.is("the one before is gone", 10, x.restore());
        GrayPointers y = new GrayPointers();
        Due.is("keep() of a new object", 0, y.keep());
        y.pass(7);
        Due.is("restore() of it", 0, y.restore());
        Due.is("the time", 0, y.count(0));
    }

    /** "Restores the state of the snapshot, which stays." */
    private static void theSnapshotStays() {
        GrayPointers x = new GrayPointers();
        Made.busy(x);
        x.keep();
        String kept = Told.state(x);
        for (int i = 0; i < 3; i++) {
            x.build(1 + i, true);
            x.push(i);
            x.start(0, true);
            x.start(1, true);
            x.pass(60);
            x.setClock(0, 50, i);
            Due.is("restore() " + i, 62 - 25, x.restore());
            Due.same("the state of the snapshot " + i, kept, Told.state(x));
        }
    }

    private static void restoreIsAnAct() {
        GrayPointers x = new GrayPointers();
        x.keep();
        x.pass(14);
        Due.is("restore()", 0, x.restore());
        Due.is("two states", 2, x.count(12));
        Due.is("undo() of it", 1, x.undo());
        Due.is("the time is 14 again", 14, x.count(0));
        Due.is("undo() of the times", 0, x.undo());
        Due.is("the time is 0 again", 0, x.count(0));
    }

    private static void restoreWithAFullHistory() {
        GrayPointers x = new GrayPointers();
        x.push(1);
        x.keep();
        Made.push(x, 2, 4);
        Due.is("four states", 4, x.count(12));
        Due.is("restore()", 0, x.restore());
        Due.is("four states still", 4, x.count(12));
        Due.is("one waits", 1, x.count(5));
        int[] waits = {5, 4, 3, 2};
        for (int i = 0; i < waits.length; i++) {
            Due.is("undo()", 3 - i, x.undo());
            Due.is("words that wait", waits[i], x.count(5));
        }
        Due.is("the oldest ones were dropped", NONE, x.undo());
    }

    /** "A state is everything but the text, the history and the snapshot." */
    private static void whatIsNoPartOfAState() {
        GrayPointers x = new GrayPointers();
        x.push(1);
        Made.type(x, "44");
        x.keep();
        x.push(2);
        x.type('x');
        Due.is("undo()", 1, x.undo());
        Due.is("the text stays with undo", 3, x.count(13));
        Due.is("restore()", 0, x.restore());
        Due.is("the text stays with restore", 3, x.count(13));
        Due.is("the history stays with restore", 2, x.count(12));
        x.type('2');
        x.undo();
        x.undo();
        Due.is("the text stays with all undone", 2, x.pushAll());
        Due.is("its word", 44, x.waiting(1));
        Due.is("the snapshot stays with all undone", 0, x.restore());
        Due.is("it is the one that was kept", 1, x.waiting(0));
        x.clearText();
        x.undo();
        Due.is("an emptied text stays empty", 0, x.count(13));
    }

    /** A state that is kept does not change when the object goes on from it. */
    private static void statesAreNotMixed() {
        GrayPointers x = new GrayPointers();
        Made.busy(x);
        x.start(1, true);
        List<String> told = new ArrayList<>();
        x.keep();
        String kept = Told.state(x);
        ToIntFunction<GrayPointers> pushed = y -> y.push(9);
        List<ToIntFunction<GrayPointers>> acts = List.of(pushed, y -> y.pass(40), y -> y.set(0, 14), y -> y.build(4, true));
        for (ToIntFunction<GrayPointers> act : acts) {
            told.add(Told.state(x));
            act.applyAsInt(x);
        }
        for (int left = 3; left >= 0; left--) {
            Due.is("undo() to " + left, left, x.undo());
            Due.same("the state " + left, told.get(left), Told.state(x));
        }
        x.pass(77);
        x.restore();
        Due.same("the snapshot", kept, Told.state(x));
    }
}
