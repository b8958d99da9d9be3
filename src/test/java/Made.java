/** Objects that several tests begin with. */
final class Made {
    private Made() {
    }

    /** A ring of which both sides tick at each time. */
    static GrayPointers even(int k, boolean gray) {
        GrayPointers x = new GrayPointers();
        x.build(k, gray);
        x.setClock(0, 1, 0);
        x.setClock(1, 1, 0);
        return x;
    }

    /** The same, empty, when so many words have come one by one; each side sees the other one's pointer. */
    static GrayPointers after(int words, int k, boolean gray) {
        GrayPointers x = even(k, gray);
        for (int word = 0; word < words; word++) {
            x.push(word);
            x.pass(8);
        }
        return x;
    }

    static void type(GrayPointers x, String text) {
        for (int i = 0; i < text.length(); i++) {
            x.type(text.charAt(i));
        }
    }

    static void push(GrayPointers x, int firstWord, int words) {
        for (int i = 0; i < words; i++) {
            x.push(firstWord + i);
        }
    }

    /** Nothing of it is as in a new object, and a text, a snapshot and four states are there. */
    static void busy(GrayPointers x) {
        x.build(3, false);
        x.setClock(0, 2, 1);
        x.setClock(1, 3, 2);
        push(x, 40, 9);
        x.pass(25);
        x.set(0, 3);
        x.keep();
        x.set(1, 2);
        type(x, "61x2,.7,8");
        x.pass(4);
        push(x, 70, 6);
        x.pass(3);
        x.start(1, false);
        x.pass(5);
    }

    /** As busy, but no word more can wait, no sign more be typed, and both clocks stand. */
    static void full(GrayPointers x) {
        busy(x);
        x.start(0, false);
        push(x, 1, 20);
        x.clearText();
        for (int i = 0; i < 20; i++) {
            type(x, i < 19 ? ".1," : "3x2");
        }
    }
}
