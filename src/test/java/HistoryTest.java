/** Promises 11 to 13: undo, keep, restore. */
final class HistoryTest {
    private static final int NONE = GrayPointers.NONE;

    private HistoryTest() {
    }

    static void run() {
        undo();
        fourStatesAtMost();
        whatIsNoAct();
        keepAndRestore();
        aStateIsEverything();
    }

    private static void undo() {
        GrayPointers x = new GrayPointers();
        Due.is("undo() of none", NONE, x.undo());
        x.push(1);
        x.push(2);
        Due.is("undo()", 1, x.undo());
        Due.is("one waits", 1, x.count(5));
        Due.is("undo() to the first", 0, x.undo());
        Due.is("none waits", 0, x.count(5));
        Due.is("undo() behind the first", NONE, x.undo());
        Due.is("undo is no act", 0, x.count(12));
    }

    private static void fourStatesAtMost() {
        GrayPointers x = new GrayPointers();
        for (int word = 1; word <= 11; word++) {
            x.push(word);
            Due.is("states", Math.min(word, 4), x.count(12));
        }
        for (int left = 3; left >= 0; left--) {
            Due.is("undo()", left, x.undo());
            Due.is("words that wait", 7 + left, x.count(5));
            Due.is("the last one", 7 + left, x.waiting(6 + left));
        }
        Due.is("undo() of none", NONE, x.undo());
        Due.is("the rest stays", 7, x.count(5));
        for (int word = 1; word <= 3; word++) {
            x.push(50 + word);
        }
        x.undo();
        x.push(60);
        x.push(61);
        x.push(62);
        for (int left = 3; left >= 0; left--) {
            Due.is("undo() in a mixed run", left, x.undo());
        }
        Due.is("words that wait after it", 8, x.count(5));
        Due.is("the last of them", 51, x.waiting(7));
    }

    private static void whatIsNoAct() {
        GrayPointers x = new GrayPointers();
        x.type('1');
        x.keep();
        x.clearText();
        x.doneIn();
        x.leastDepth(500);
        x.side(0, 3);
        x.place(0, 0);
        x.waiting(0);
        x.taken(0);
        x.count(0);
        x.pushAll();
        x.setClock(0, 10, 0);
        x.start(0, true);
        x.set(0, 1);
        x.push(100);
        x.pass(0);
        x.build(5, true);
        Due.is("no act, no state", 0, x.count(12));
    }

    private static void keepAndRestore() {
        GrayPointers x = new GrayPointers();
        Due.is("restore() of none", NONE, x.restore());
        Due.is("restore() of none is no act", 0, x.count(12));
        x.pass(12);
        x.push(3);
        Due.is("keep()", 12, x.keep());
        Due.is("keep is no act", 2, x.count(12));
        x.pass(30);
        x.type('5');
        Due.is("restore()", 12, x.restore());
        Due.is("restored: the word waits", 3, x.waiting(0));
        Due.is("restore is an act", 4, x.count(12));
        Due.is("the text stays", 1, x.count(13));
        Due.is("undo() of it", 3, x.undo());
        Due.is("undone: time", 42, x.count(0));
        Due.is("restore() once more", 12, x.restore());
        Due.is("restore() as it is", 12, x.restore());
        Due.is("which is an act too", 4, x.count(12));
        x.undo();
        x.undo();
        Due.is("the snapshot is no part of a state", 12, x.restore());
        x.pass(1);
        Due.is("keep() in place of it", 13, x.keep());
        x.pass(1);
        Due.is("restore() of the new one", 13, x.restore());
    }

    private static void aStateIsEverything() {
        GrayPointers x = new GrayPointers();
        x.build(3, false);
        x.setClock(0, 2, 1);
        x.setClock(1, 3, 2);
        x.set(0, 4);
        x.set(1, 5);
        for (int word = 0; word < 20; word++) {
            x.push(word * 5);
        }
        x.pass(40);
        x.start(1, false);
        String before = Told.state(x);
        int wordBefore = x.taken(0);
        x.keep();
        x.setClock(0, 50, 49);
        x.set(0, 9);
        x.set(1, 10);
        x.start(1, true);
        x.pass(90);
        x.push(1);
        Due.isTrue("more words came", x.taken(0) != wordBefore);
        String between = Told.state(x);
        Due.isTrue("it changed", !between.equals(before));
        x.restore();
        Due.isTrue("restored: " + Told.state(x), Told.state(x).equals(before));
        x.undo();
        Due.isTrue("undone: " + Told.state(x), Told.state(x).equals(between));
        x.restore();
        x.build(1, true);
        x.undo();
        Due.isTrue("build undone: " + Told.state(x), Told.state(x).equals(before));
        x.start(1, true);
        x.pass(300);
        x.undo();
        x.undo();
        Due.isTrue("pass undone: " + Told.state(x), Told.state(x).equals(before));
    }
}
