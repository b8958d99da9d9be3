/** What an object tells, as one text. */
final class Told {
    private Told() {
    }

    /** Of its state: what undo and restore bring back. */
    static String state(GrayPointers x) {
        StringBuilder all = new StringBuilder();
        for (int what = 0; what <= 13; what++) {
            all.append(x.side(0, what)).append(' ').append(x.side(1, what)).append(' ');
        }
        for (int what = 0; what <= 11; what++) {
            all.append(x.count(what)).append(' ');
        }
        for (int i = 0; i < x.count(2); i++) {
            all.append(x.place(i, 0)).append(' ').append(x.place(i, 1)).append(' ');
        }
        for (int i = 0; i <= 20; i++) {
            all.append(x.waiting(i)).append(' ').append(x.taken(i)).append(' ');
        }
        return all.toString();
    }

    /** Of the whole object, as far as it is told at once. */
    static String all(GrayPointers x) {
        return state(x) + x.count(12) + ' ' + x.count(13) + ' ' + x.doneIn() + ' ' + x.leastDepth(500);
    }
}
