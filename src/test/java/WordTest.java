/** Promises 6 and 8: push and pass. */
final class WordTest {
    private static final int BAD_VALUE = GrayPointers.BAD_VALUE;
    private static final int FULL = GrayPointers.FULL;

    private WordTest() {
    }

    static void run() {
        push();
        pass();
        theTimeHasABound();
    }

    private static void push() {
        GrayPointers x = new GrayPointers();
        int[] bad = {Integer.MIN_VALUE, -1, 100, Integer.MAX_VALUE};
        for (int word : bad) {
            Due.is("push(" + word + ")", BAD_VALUE, x.push(word));
        }
        Due.is("push refused: no state", 0, x.count(12));
        Due.is("push(99)", 1, x.push(99));
        Due.is("push(0)", 2, x.push(0));
        Due.is("push: states", 2, x.count(12));
        for (int wait = 3; wait <= 20; wait++) {
            Due.is("push", wait, x.push(wait));
        }
        x.undo();
        Due.is("push undone", 19, x.count(5));
        Due.is("push again", 20, x.push(55));
        int states = x.count(12);
        Due.is("push: 20 wait", FULL, x.push(1));
        Due.is("push: 20 wait, a bad word", BAD_VALUE, x.push(100));
        Due.is("push: no state of what is refused", states, x.count(12));
        Due.is("push: the first", 99, x.waiting(0));
        Due.is("push: the last", 55, x.waiting(19));
        x.pass(10);
        Due.is("push: the first was put", 0, x.waiting(0));
        Due.is("push: there is room", 20, x.push(1));
    }

    private static void pass() {
        GrayPointers x = new GrayPointers();
        int[] bad = {Integer.MIN_VALUE, -1, 0, 501, Integer.MAX_VALUE};
        for (int times : bad) {
            Due.is("pass(" + times + ")", BAD_VALUE, x.pass(times));
        }
        Due.is("pass refused: no state", 0, x.count(12));
        Due.is("pass refused: time", 0, x.count(0));
        for (int word = 0; word < 20; word++) {
            x.push(word);
        }
        Due.is("pass(1)", 0, x.pass(1));
        Due.is("pass: time", 1, x.count(0));
        // Put at 10; sampled at 14, in the second register at 28, so taken at 42, 56, 70, 84 ..
        Due.is("pass(40)", 0, x.pass(40));
        Due.is("pass(1) to 42", 1, x.pass(1));
        Due.is("pass(13)", 0, x.pass(13));
        Due.is("pass(1) to 56", 1, x.pass(1));
        Due.is("pass(28)", 2, x.pass(28));
        Due.is("pass: words taken", 4, x.count(7));
        x.undo();
        Due.is("pass undone: time", 56, x.count(0));
        Due.is("pass undone: words taken", 2, x.count(7));
        Due.is("pass(500)", 18, x.pass(500));
        Due.is("pass: all came right", 20, x.count(8));
        Due.is("pass: time", 556, x.count(0));
    }

    /** More than 512 calls are needed to come there, which the document leaves free; no call may fail. */
    private static void theTimeHasABound() {
        GrayPointers x = new GrayPointers();
        for (int i = 0; i < 1999; i++) {
            x.pass(500);
        }
        x.pass(499);
        Due.is("bound: time", 999999, x.count(0));
        Due.is("bound: pass(2)", FULL, x.pass(2));
        Due.is("bound: pass(501)", BAD_VALUE, x.pass(501));
        Due.is("bound: time after it", 999999, x.count(0));
        x.push(1);
        x.setClock(0, 1, 0);
        x.setClock(1, 1, 0);
        Due.is("bound: doneIn() goes beyond", 4, x.doneIn());
        Due.is("bound: leastDepth() goes beyond", 1, x.leastDepth(500));
        Due.is("bound: states", 4, x.count(12));
        Made.type(x, "7x2,.1,.1");
        Due.is("bound: pushAll()", FULL, x.pushAll());
        Due.is("bound: one waits still", 1, x.count(5));
        Due.is("bound: the time stays", 999999, x.count(0));
        x.clearText();
        Made.type(x, "7x2,.1");
        Due.is("bound: pushAll() to the end", 2, x.pushAll());
        Due.is("bound: the end", 1000000, x.count(0));
        Due.is("bound: pass(1)", FULL, x.pass(1));
        Due.is("bound: the clock's next tick", 1, x.side(0, 11));
    }
}
