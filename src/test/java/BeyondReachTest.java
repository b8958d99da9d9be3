/**
 * What the document asks for, but no run of calls brings about: words that come wrong, and a doneIn beyond
 * 5000 while both clocks go. A register or a period is put by hand to a value that it never gets.
 */
final class BeyondReachTest {
    private static final int NONE = GrayPointers.NONE;

    private BeyondReachTest() {
    }

    static void run() throws ReflectiveOperationException {
        aWordReadFromNothing();
        aWordPutInTheSameTime();
        aDoubledWord();
        aLostWord();
        byTheNumberNotByTheValue();
        theGreatestWordComesWrong();
        wrongWordsAreUndone();
        fiveThousandTimes();
    }

    private static void counts(String what, GrayPointers x, int taken, int right, int wrong) {
        Due.is(what + ": taken", taken, x.count(7));
        Due.is(what + ": right", right, x.count(8));
        Due.is(what + ": wrong", wrong, x.count(9));
    }

    /** "a place where none was put has no number, and the word 0"; "100 more if it came wrong" */
    private static void aWordReadFromNothing() throws ReflectiveOperationException {
        GrayPointers x = Made.even(1, false);
        Inside.setSecondRegister(x, 1, 1);
        Due.is("nothing: the fill that the reader sees", 1, x.side(1, 8));
        Due.is("nothing: pass(1)", 1, x.pass(1));
        Due.is("nothing: taken(0)", 100, x.taken(0));
        Due.is("nothing: taken(1)", NONE, x.taken(1));
        counts("nothing", x, 1, 0, 1);
        Due.is("nothing: the fill", 3, x.count(4));
        Due.is("nothing: more are taken than put", NONE, x.doneIn());
    }

    /** "and this was put before the time in which it was taken" */
    private static void aWordPutInTheSameTime() throws ReflectiveOperationException {
        GrayPointers x = Made.even(1, false);
        x.push(42);
        Inside.setSecondRegister(x, 1, 1);
        Due.is("same time: pass(1)", 1, x.pass(1));
        Due.is("same time: it was put", 0, x.place(0, 1));
        Due.is("same time: the place as it was ahead", 100, x.taken(0));
        counts("same time", x, 1, 0, 1);
    }

    private static void aDoubledWord() throws ReflectiveOperationException {
        GrayPointers x = Made.even(1, false);
        x.push(31);
        x.push(32);
        x.pass(20);
        counts("doubled, ahead of it", x, 2, 2, 0);
        Inside.setSecondRegister(x, 1, 3);
        Due.is("doubled: pass(1)", 1, x.pass(1));
        Due.is("doubled: the first word again", 131, x.taken(0));
        Due.is("doubled: the one before", 32, x.taken(1));
        counts("doubled", x, 3, 2, 1);
    }

    private static void aLostWord() throws ReflectiveOperationException {
        GrayPointers x = Made.even(1, false);
        x.start(1, false);
        Made.push(x, 31, 3);
        x.pass(5);
        Inside.setSecondRegister(x, 0, 1);
        x.pass(1);
        Due.is("lost: the place is taken by the third word", 33, x.place(0, 0));
        Due.is("lost: its number", 2, x.place(0, 1));
        x.start(1, true);
        x.pass(5);
        Due.is("lost: the first was the third", 133, x.taken(2));
        Due.is("lost: the second", 32, x.taken(1));
        Due.is("lost: the third", 33, x.taken(0));
        counts("lost", x, 3, 2, 1);
        Due.is("lost: as many taken as put", 0, x.doneIn());
        x.push(34);
        Due.is("lost: pass(20) behind a wrong word", 1, x.pass(20));
        Due.is("lost: the fourth comes right", 34, x.taken(0));
    }

    /** "by that number itself (not by its value alone)" */
    private static void byTheNumberNotByTheValue() throws ReflectiveOperationException {
        GrayPointers x = Made.even(1, false);
        x.push(0);
        x.push(0);
        x.pass(20);
        Inside.setSecondRegister(x, 1, 3);
        x.push(0);
        Due.is("same value: pass(1)", 1, x.pass(1));
        Due.is("same value, but wrong", 100, x.taken(0));
        counts("same value", x, 3, 2, 1);
    }

    private static void theGreatestWordComesWrong() throws ReflectiveOperationException {
        GrayPointers x = Made.after(0, 1, false);
        x.push(99);
        x.push(99);
        x.pass(20);
        Inside.setSecondRegister(x, 1, 3);
        x.pass(1);
        Due.is("the greatest word", 199, x.taken(0));
        Due.is("the greatest word, right", 99, x.taken(1));
    }

    /** Wrong words are kept, counted, undone, restored and built anew like right ones. */
    private static void wrongWordsAreUndone() throws ReflectiveOperationException {
        GrayPointers x = Made.even(1, false);
        x.push(5);
        x.pass(20);
        counts("ahead of wrong ones", x, 1, 1, 0);
        Inside.setSecondRegister(x, 1, 2);
        x.pass(1);
        counts("wrong ones", x, 2, 1, 1);
        Due.is("wrong ones: taken(0)", 100, x.taken(0));
        x.keep();
        x.undo();
        counts("undone", x, 1, 1, 0);
        Due.is("undone: taken(0)", 5, x.taken(0));
        Due.is("undone: taken(1)", NONE, x.taken(1));
        x.restore();
        counts("restored", x, 2, 1, 1);
        Due.is("restored: taken(0)", 100, x.taken(0));
        Due.is("restored: taken(1)", 5, x.taken(1));
        x.build(1, false);
        counts("built anew", x, 0, 0, 0);
    }

    /** "NONE if it takes more than 5000" */
    private static void fiveThousandTimes() throws ReflectiveOperationException {
        int[] times = {4999, 5000, 5001, 6000};
        int[] due = {4999, 5000, NONE, NONE};
        for (int i = 0; i < times.length; i++) {
            GrayPointers x = Made.even(2, true);
            x.push(8);
            x.pass(1);
            Inside.setSecondRegister(x, 1, 1);
            Inside.setPeriod(x, 1, times[i] + 1);
            Due.is("the reader's only tick", times[i], x.side(1, 11));
            Due.is("doneIn() of " + times[i], due[i], x.doneIn());
            Due.is("the time stays", 1, x.count(0));
        }
    }
}
