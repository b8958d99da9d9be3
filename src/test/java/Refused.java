import java.util.List;
import java.util.function.Consumer;
import java.util.function.ToIntFunction;

/**
 * "A call that returns an error or NONE changes nothing": two objects with the same calls, of which one has
 * the refused call too, tell the same; and the same when the history, the snapshot, the text or times that
 * pass bring forth what is hidden. Each look has objects of its own, so that none comes to 512 calls.
 */
final class Refused {
    private static final List<Consumer<GrayPointers>> LOOKS = List.of(
        x -> { },
        x -> undo(x, 1),
        x -> undo(x, 2),
        x -> undo(x, 3),
        x -> undo(x, 4),
        x -> x.restore(),
        x -> x.pushAll(),
        x -> x.pass(1),
        x -> x.pass(97),
        x -> {
            x.start(0, true);
            x.start(1, true);
            x.pass(300);
        });

    private Refused() {
    }

    static void is(String what, int due, Consumer<GrayPointers> begin, ToIntFunction<GrayPointers> call) {
        Due.isTrue(what + " is refused", due < 0);
        GrayPointers x = new GrayPointers();
        begin.accept(x);
        Due.is(what, due, call.applyAsInt(x));
        changesNothing(what, begin, call);
    }

    /** For calls that only tell something, too. */
    static void changesNothing(String what, Consumer<GrayPointers> begin, ToIntFunction<GrayPointers> call) {
        for (int look = 0; look < LOOKS.size(); look++) {
            GrayPointers with = new GrayPointers();
            begin.accept(with);
            call.applyAsInt(with);
            LOOKS.get(look).accept(with);
            GrayPointers without = new GrayPointers();
            begin.accept(without);
            LOOKS.get(look).accept(without);
            Due.same(what + " changes nothing (look " + look + ")", Told.all(without), Told.all(with));
        }
    }

    private static void undo(GrayPointers x, int times) {
        for (int i = 0; i < times; i++) {
            x.undo();
        }
    }
}
