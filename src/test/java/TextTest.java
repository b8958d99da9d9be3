/** Promises 7, 9 and 10: pushAll, type, clearText. */
final class TextTest {
    private static final int FULL = GrayPointers.FULL;

    private TextTest() {
    }

    static void run() {
        faults();
        goodTexts();
        allOrNothing();
        oneAct();
        typeAndClear();
        theLongestTexts();
    }

    private static GrayPointers withText(String text) {
        GrayPointers x = new GrayPointers();
        Made.type(x, text);
        return x;
    }

    private static void fault(String text, int fault) {
        GrayPointers x = withText(text);
        Due.is("the fault of \"" + text + "\"", -100 - fault, x.pushAll());
        Due.is("a fault records no state", 0, x.count(12));
        Due.is("a fault lets nothing wait", 0, x.count(5));
        Due.is("a fault lets no time pass", 0, x.count(0));
        Due.is("the text stays", text.length(), x.count(13));
    }

    private static void faults() {
        fault("", 0);
        fault(",", 0);
        fault("x2", 0);
        fault(" 1", 0);
        fault("1 ", 1);
        fault("-1", 0);
        fault("00", 1);
        fault("01", 1);
        fault("100", 2);
        fault("990", 2);
        fault("5x", 2);
        fault("5x0", 2);
        fault("5x1", 2);
        fault("5x10", 2);
        fault("5x22", 3);
        fault("5x2x2", 3);
        fault("5xx2", 2);
        fault("5X2", 1);
        fault("5.", 1);
        fault("5,", 2);
        fault("5,,6", 2);
        fault("5,6,", 4);
        fault(".", 1);
        fault("..1", 1);
        fault(".0", 1);
        fault(".01", 1);
        fault(".100", 3);
        fault(".5x2", 2);
        fault(".5.", 2);
        fault(".,1", 1);
        fault("1,2,3,a", 6);
        fault("1" + (char) 0, 1);
        fault("1" + (char) 233, 1);
        fault("" + (char) 0x0661, 0);
        fault("1" + (char) 0x132C, 1);
        fault("1" + (char) 0xFFFF, 1);
    }

    private static void goodTexts() {
        good("0", 1, 0, 0);
        good("9", 1, 0, 9);
        good("10", 1, 0, 10);
        good("99", 1, 0, 99);
        good("0x2", 2, 0, 0);
        good("7x9", 9, 0, 7);
        good("42x3", 3, 0, 42);
        good("3,4", 2, 0, 3);
        good(".1,3", 1, 1, 3);
        good("8,.9", 1, 9, 8);
        good(".9,6x2,.1", 2, 10, 6);
        GrayPointers x = withText(".99");
        Due.is("only times: pushAll()", 0, x.pushAll());
        Due.is("only times: the time", 99, x.count(0));
        Due.is("only times: a state", 1, x.count(12));
        GrayPointers y = withText("1,2x2,3");
        Due.is("in their order: pushAll()", 4, y.pushAll());
        int[] words = {1, 2, 2, 3};
        for (int rank = 0; rank < words.length; rank++) {
            Due.is("in their order: waiting(" + rank + ")", words[rank], y.waiting(rank));
        }
    }

    /** The first word of the text is put if 10 times pass behind it. */
    private static void good(String text, int words, int time, int first) {
        GrayPointers x = withText(text);
        Due.is("pushAll() of \"" + text + "\"", words, x.pushAll());
        Due.is("the time after \"" + text + "\"", time, x.count(0));
        Due.is("words put or waiting after \"" + text + "\"", words, x.count(5) + x.count(6));
        Due.is("the first word of \"" + text + "\"", first, x.count(6) > 0 ? x.place(0, 0) : x.waiting(0));
        Due.is("the text stays: \"" + text + "\"", text.length(), x.count(13));
    }

    private static void allOrNothing() {
        GrayPointers x = withText("1x9,.10,2x9,3x3");
        Due.is("20 wait at the most", 21, x.pushAll());
        Due.is("20 wait", 20, x.count(5));
        Due.is("a word more", FULL, x.pushAll());
        Due.is("nothing was done: the time", 10, x.count(0));
        Due.is("nothing was done: the words put", 1, x.count(6));
        Due.is("nothing was done: one state", 1, x.count(12));
        GrayPointers y = withText("1x9,2x9,3x3,.99");
        Due.is("21 would wait for a while", FULL, y.pushAll());
        Due.is("none waits", 0, y.count(5));
        GrayPointers z = withText("1x9,2x9,3x3,00");
        Due.is("the fault is told ahead of FULL", -113, z.pushAll());
    }

    private static void oneAct() {
        GrayPointers x = withText("1x9,.99,2,.50,3");
        x.set(0, 2);
        Due.is("pushAll()", 11, x.pushAll());
        Due.is("one act", 2, x.count(12));
        Due.is("the time", 149, x.count(0));
        Due.is("undo()", 1, x.undo());
        Due.is("undone: the time", 0, x.count(0));
        Due.is("undone: none waits", 0, x.count(5));
        Due.is("undone: none was taken", 0, x.count(7));
        Due.is("the text is no part of a state", 15, x.count(13));
        Due.is("once more", 11, x.pushAll());
        GrayPointers y = new GrayPointers();
        y.push(4);
        Made.type(y, "5,.42");
        Due.is("words that are taken do not count", 1, y.pushAll());
        Due.is("taken in it", 1, y.count(7));
    }

    private static void typeAndClear() {
        GrayPointers x = new GrayPointers();
        Due.is("clearText() of none", 0, x.clearText());
        for (int length = 1; length <= 60; length++) {
            Due.is("type at " + length, length, x.type((char) (length * 1000)));
        }
        Due.is("type: 60 are there", FULL, x.type('1'));
        Due.is("the length", 60, x.count(13));
        Due.is("no act", 0, x.count(12));
        Due.is("clearText()", 60, x.clearText());
        Due.is("the length then", 0, x.count(13));
        Due.is("clearText() again", 0, x.clearText());
        Due.is("type anew", 1, x.type('7'));
        Due.is("pushAll()", 1, x.pushAll());
        Due.is("waiting(0)", 7, x.waiting(0));
        x.type('8');
        Due.is("typed behind it", 1, x.pushAll());
        Due.is("waiting(1)", 78, x.waiting(1));
        x.clearText();
        x.type('6');
        Due.is("what was cleared is gone", 1, x.pushAll());
        Due.is("waiting(2)", 6, x.waiting(2));
        x.type('x');
        Due.is("what is not typed is missed", -102, x.pushAll());
    }

    private static void theLongestTexts() {
        GrayPointers x = new GrayPointers();
        for (int i = 0; i < 30; i++) {
            Made.type(x, "1,");
        }
        Due.is("a comma ends 60 signs", -160, x.pushAll());
        x.clearText();
        for (int i = 0; i < 29; i++) {
            Made.type(x, "1,");
        }
        Made.type(x, "10");
        x.setClock(0, 1, 0);
        Due.is("30 words, none of them put", FULL, x.pushAll());
        x.clearText();
        Made.type(x, "1,2,.9,3,4,5,.9,6,7,8,.9,9x9,.9,1x9,.99,0x9,.99,11x2,.9,12x2");
        Due.is("60 signs", 60, x.count(13));
        x.setClock(1, 1, 0);
        Due.is("60 signs: pushAll()", 39, x.pushAll());
        Due.is("60 signs: the time", 243, x.count(0));
        Due.is("60 signs: taken and right", 37, x.count(8));
    }
}
