/** The edges of the terms 'texts' and of promises 7, 9 and 10: a method for each sentence. */
final class TextEdgeTest {
    private static final int FULL = GrayPointers.FULL;
    private static final int NONE = GrayPointers.NONE;
    private static final int NO_FAULT = -1;

    private TextEdgeTest() {
    }

    static void run() {
        sixtySigns();
        anySign();
        theEmptyText();
        oneOrMoreParts();
        theWord();
        howOften();
        timesThatPass();
        noZeroInFront();
        noNumberAbove99();
        theFaultAtTheEdges();
        allShortTexts();
        twentyWaitAtAnyTime();
        roomThatTimeMakes();
        allOfItOrNothing();
        theTextStays();
        noWordInIt();
    }

    private static GrayPointers with(String text) {
        GrayPointers x = new GrayPointers();
        Made.type(x, text);
        return x;
    }

    /** Whether there is a fault, and where; a text without one must be done. */
    private static void fault(String text, int fault) {
        int answer = with(text).pushAll();
        if (fault == NO_FAULT) {
            Due.isTrue("\"" + text + "\" has no fault: " + answer, answer >= 0);
        } else {
            Due.is("the fault of \"" + text + "\"", -100 - fault, answer);
        }
    }

    /** "There is a text of at most 60 characters, empty at first."; type: "FULL if it has 60 characters" */
    private static void sixtySigns() {
        GrayPointers x = new GrayPointers();
        Due.is("empty at first", 0, x.count(13));
        Due.is("clearText() of the empty text", 0, x.clearText());
        Due.is("the first sign", 1, x.type('7'));
        for (int length = 2; length <= 59; length++) {
            x.type(length % 2 == 0 ? ',' : '7');
        }
        Due.is("59 signs", 59, x.count(13));
        Due.is("the 60th", 60, x.type('8'));
        Due.is("the 61st", FULL, x.type('9'));
        Due.is("the 62nd", FULL, x.type('9'));
        Due.is("60 signs", 60, x.count(13));
        Due.is("30 words would wait", FULL, x.pushAll());
        Due.is("clearText() of the full text", 60, x.clearText());
        Due.is("empty then", 0, x.count(13));
        Due.is("clearText() once more", 0, x.clearText());
        Due.is("there is room", 1, x.type('5'));
        Due.is("what was typed first is gone", 1, x.pushAll());
        Due.is("the new word", 5, x.waiting(0));
        Due.is("only that", NONE, x.waiting(1));
    }

    /** "any character" */
    private static void anySign() {
        char[] signs = {0, 1, ' ', '\n', '/', ':', '-', '+', 'X', 'a', 127, 128, 233, 255, 256, 0x660, 0x966,
            0x132E, 0x2C2C, 0x3078, 0x8030, 0xD800, 0xFF11, 0xFFFE, 0xFFFF};
        for (char sign : signs) {
            GrayPointers x = new GrayPointers();
            Due.is("type(" + (int) sign + ")", 1, x.type(sign));
            Due.is("the fault of " + (int) sign, -100, x.pushAll());
            x.clearText();
            Made.type(x, "12");
            Due.is("type(" + (int) sign + ") behind", 3, x.type(sign));
            Due.is("the fault of " + (int) sign + " behind", -102, x.pushAll());
            Due.is("nothing waits", 0, x.count(5));
        }
    }

    /** "or the length of the text if it ends too early (the empty text does)" */
    private static void theEmptyText() {
        GrayPointers x = new GrayPointers();
        Due.is("empty: pushAll()", -100, x.pushAll());
        x.type('5');
        x.clearText();
        Due.is("emptied: pushAll()", -100, x.pushAll());
        Due.is("emptied: no state", 0, x.count(12));
        Due.is("emptied: none waits", 0, x.count(5));
    }

    /** "A text of words is one or more parts with "," between two" */
    private static void oneOrMoreParts() {
        fault("1", NO_FAULT);
        fault("1,2", NO_FAULT);
        fault(".1,.1", NO_FAULT);
        fault("1,.1", NO_FAULT);
        fault(",", 0);
        fault(",1", 0);
        fault("1,", 2);
        fault("1,,", 2);
        fault("1,,1", 2);
        fault(".1,", 3);
        fault(".1,,", 3);
        fault("1x2,", 4);
        fault("1 2", 1);
        fault("1.2", 1);
        fault(".1.2", 2);
        fault("1x2.2", 3);
        GrayPointers x = new GrayPointers();
        for (int part = 0; part < 20; part++) {
            Made.type(x, part == 0 ? "0" : "," + part % 10);
        }
        Due.is("20 parts", 20, x.pushAll());
        for (int part = 0; part < 20; part++) {
            Due.is("the word of part " + part, part % 10, x.waiting(part));
        }
    }

    /** "a word (0 to 99)" */
    private static void theWord() {
        int[] words = {0, 1, 9, 10, 11, 19, 90, 98, 99};
        for (int word : words) {
            GrayPointers x = with("" + word);
            Due.is("the word " + word, 1, x.pushAll());
            Due.is("it waits: " + word, word, x.waiting(0));
            GrayPointers y = with(word + "x2," + word);
            Due.is("the word " + word + " twice, and once", 3, y.pushAll());
            Due.is("it waits at last: " + word, word, y.waiting(2));
        }
        fault("100", 2);
        fault("-1", 0);
        fault("x", 0);
        fault("x2", 0);
        fault("5xx", 2);
    }

    /** "perhaps with "x" and how often (2 to 9) behind it" */
    private static void howOften() {
        for (int often = 2; often <= 9; often++) {
            GrayPointers x = with("43x" + often);
            Due.is("x" + often, often, x.pushAll());
            Due.is("x" + often + ": words that wait", often, x.count(5));
            Due.is("x" + often + ": the last of them", 43, x.waiting(often - 1));
            Due.is("x" + often + ": behind it", NONE, x.waiting(often));
        }
        fault("43x", 3);
        fault("43x0", 3);
        fault("43x1", 3);
        fault("43x10", 3);
        fault("43x20", 4);
        fault("43x99", 4);
        fault("43x2x2", 4);
        fault("43x/", 3);
        fault("43x:", 3);
        fault(".5x2", 2);
        fault("0x2", NO_FAULT);
    }

    /** "or "." and a number of times that pass (1 to 99)" */
    private static void timesThatPass() {
        int[] times = {1, 2, 9, 10, 11, 90, 98, 99};
        for (int number : times) {
            GrayPointers x = with("." + number);
            Due.is("." + number, 0, x.pushAll());
            Due.is("." + number + ": the time", number, x.count(0));
            Due.is("." + number + ": an act", 1, x.count(12));
        }
        fault(".", 1);
        fault(".0", 1);
        fault(".00", 1);
        fault(".01", 1);
        fault(".100", 3);
        fault(".990", 3);
        fault("..", 1);
        fault(".,", 1);
        fault(".x", 1);
        fault(".-1", 1);
    }

    /** "Numbers have no zero in front, unless the word is the single digit 0" */
    private static void noZeroInFront() {
        fault("0", NO_FAULT);
        fault("0,0", NO_FAULT);
        fault("0x9", NO_FAULT);
        fault("0,.1", NO_FAULT);
        fault("00", 1);
        fault("01", 1);
        fault("09", 1);
        fault("0 ", 1);
        fault("1,00", 3);
        fault("1,01x2", 3);
        fault("10", NO_FAULT);
        fault("5x02", 2);
        fault(".05", 1);
        fault(".10", NO_FAULT);
    }

    /** "a digit by which a number would be greater than 99 is not allowed" */
    private static void noNumberAbove99() {
        fault("99", NO_FAULT);
        fault("990", 2);
        fault("999", 2);
        fault("100", 2);
        fault("1000", 2);
        fault("1,100", 4);
        fault(".99", NO_FAULT);
        fault(".999", 3);
        fault(".100", 3);
        fault("1,.100", 5);
        fault("99x2", NO_FAULT);
        fault("100x2", 2);
    }

    /** "the index, from 0, of the first character that is not allowed at its place, or the length of the text" */
    private static void theFaultAtTheEdges() {
        String filled = ".9,".repeat(19);
        fault("a", 0);
        fault("aa", 0);
        fault("1a,a", 1);
        fault(filled + "1x9", NO_FAULT);
        fault(filled + ".99", NO_FAULT);
        fault(filled + "100", 59);
        fault(filled + "1x1", 59);
        fault(filled + "12a", 59);
        fault(filled + "12x", 60);
        fault(filled + "12,", 60);
        fault(filled + "1,.", 60);
        fault(filled + "1,", 59);
        fault(filled + "1", NO_FAULT);
        fault(filled + "0 0", 58);
        fault("a" + filled, 0);
    }

    /** Every text of at most four signs of these; the model finds the fault in another way. */
    private static void allShortTexts() {
        char[] signs = {'0', '1', '2', '9', 'x', '.', ',', 'a'};
        for (int length = 0; length <= 4; length++) {
            int texts = (int) Math.round(Math.pow(signs.length, length));
            for (int text = 0; text < texts; text++) {
                shortText(signs, length, text);
            }
        }
    }

    private static void shortText(char[] signs, int length, int text) {
        GrayPointers x = new GrayPointers();
        Model model = new Model();
        StringBuilder all = new StringBuilder();
        int rest = text;
        for (int i = 0; i < length; i++) {
            char sign = signs[rest % signs.length];
            rest /= signs.length;
            x.type(sign);
            model.type(sign);
            all.append(sign);
        }
        Due.is("pushAll() of \"" + all + "\"", model.pushAll(), x.pushAll());
        Due.is("the time after \"" + all + "\"", model.count(0), x.count(0));
        Due.is("words that wait after \"" + all + "\"", model.count(5), x.count(5));
        Due.is("states after \"" + all + "\"", model.count(12), x.count(12));
    }

    /** "FULL if more than 20 would wait at any time" */
    private static void twentyWaitAtAnyTime() {
        Due.is("20 words in one text", 20, with("1x9,2x9,3x2").pushAll());
        Due.is("21 words in one text", FULL, with("1x9,2x9,3x3").pushAll());
        Due.is("20 and one", FULL, with("1x9,2x9,3x2,4").pushAll());
        Due.is("21 for a while", FULL, with("1x9,2x9,3x3,.99,.99").pushAll());
        for (int waiting = 17; waiting <= 20; waiting++) {
            GrayPointers x = new GrayPointers();
            Made.push(x, 0, waiting);
            Made.type(x, "5x2");
            Due.is("two behind " + waiting, waiting <= 18 ? 2 : FULL, x.pushAll());
            Due.is("they wait behind " + waiting, waiting <= 18 ? waiting + 2 : waiting, x.count(5));
        }
        GrayPointers x = new GrayPointers();
        Made.push(x, 0, 20);
        Made.type(x, ".9");
        Due.is("20 wait, and times pass", 0, x.pushAll());
        Due.is("20 wait still", 20, x.count(5));
    }

    /** "one after the other": the words that are put meanwhile make room, from that time on. */
    private static void roomThatTimeMakes() {
        Due.is("a time too early", FULL, with("1x9,2x9,3x2,.9,4").pushAll());
        GrayPointers x = with("1x9,2x9,3x2,.10,4");
        Due.is("in time", 21, x.pushAll());
        Due.is("20 wait", 20, x.count(5));
        Due.is("one was put", 1, x.count(6));
        Due.is("the last one", 4, x.waiting(19));
        Due.is("room for one, not for two", FULL, with("1x9,2x9,3x2,.10,4x2").pushAll());
        Due.is("the room comes behind it", FULL, with("1x9,2x9,3x2,4,.10").pushAll());
    }

    /** "all of it, or nothing. This is one act." */
    private static void allOfItOrNothing() {
        GrayPointers x = with("7,.99,8x9,.9,9x9,.1,6x9");
        x.push(3);
        String before = Told.all(x);
        Due.is("it would not end well", FULL, x.pushAll());
        Due.same("nothing of it was done", before, Told.all(x));
        GrayPointers y = with("7,.99,8x9,.9,9x9,.1");
        y.push(3);
        Due.is("all of it", 19, y.pushAll());
        Due.is("one act", 2, y.count(12));
        Due.is("undo()", 1, y.undo());
        Due.is("all of it is undone: time", 0, y.count(0));
        Due.is("all of it is undone: words", 1, y.count(5));
    }

    /** "what the text tells, which stays" */
    private static void theTextStays() {
        GrayPointers x = with("4x2,.3");
        Due.is("once", 2, x.pushAll());
        Due.is("its length stays", 6, x.count(13));
        Due.is("twice", 2, x.pushAll());
        Due.is("four wait", 4, x.count(5));
        Due.is("the time", 6, x.count(0));
        x.type('a');
        Due.is("a fault", -106, x.pushAll());
        Due.is("with a fault its length stays", 7, x.count(13));
        Due.is("the same fault again", -106, x.pushAll());
    }

    /** "Returns how many words of it were let wait": 0 is no error, and records a state. */
    private static void noWordInIt() {
        GrayPointers x = with(".1,.99,.1");
        Due.is("no word", 0, x.pushAll());
        Due.is("the time", 101, x.count(0));
        Due.is("a state", 1, x.count(12));
        Due.is("undo()", 0, x.undo());
        Due.is("the time is back", 0, x.count(0));
        GrayPointers y = Made.even(2, true);
        y.push(1);
        Made.type(y, "2,.9");
        Due.is("only words of the text count", 1, y.pushAll());
        Due.is("though two were put", 2, y.count(6));
        Due.is("and two came", 2, y.count(7));
    }
}
