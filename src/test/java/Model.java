import java.util.ArrayList;
import java.util.List;
import java.util.regex.Matcher;
import java.util.regex.Pattern;

/**
 * The document once more, in another way and slowly: codes are rows of bits, pointers are looked up,
 * every word that was ever put is kept with its time, and each state is a copy.
 */
final class Model {
    private static final String PART = "(?:(?:0|[1-9][0-9]?)(?:x[2-9])?|\\.[1-9][0-9]?)";
    private static final Pattern TEXT = Pattern.compile(PART + "(?:," + PART + ")*");

    private static final class Clock {
        int period;
        int phase = 0;
        boolean going = true;
        long acts = 0;
        boolean[] first = new boolean[5];
        boolean[] second = new boolean[5];
        int ticks = 0;
        int torn = 0;

        Clock(int period) {
            this.period = period;
        }

        Clock copy() {
            Clock to = new Clock(period);
            to.phase = phase;
            to.going = going;
            to.acts = acts;
            to.first = first.clone();
            to.second = second.clone();
            to.ticks = ticks;
            to.torn = torn;
            return to;
        }
    }

    private static final class World {
        int k = 2;
        boolean gray = true;
        int time = 0;
        int[] settings = {1, 1};
        Clock[] sides = {new Clock(10), new Clock(14)};
        List<Integer> waits = new ArrayList<>();
        List<Integer> putWords = new ArrayList<>();
        List<Integer> came = new ArrayList<>();
        int right = 0;

        World copy() {
            World to = new World();
            to.k = k;
            to.gray = gray;
            to.time = time;
            to.settings = settings.clone();
            to.sides = new Clock[] {sides[0].copy(), sides[1].copy()};
            to.waits = new ArrayList<>(waits);
            to.putWords = new ArrayList<>(putWords);
            to.came = new ArrayList<>(came);
            to.right = right;
            return to;
        }

        int depth() {
            return (int) Math.round(Math.pow(2, k));
        }

        int pointer(int side) {
            return (int) (sides[side].acts % (2 * depth()));
        }

        boolean[] code(int pointer) {
            boolean[] bits = new boolean[5];
            for (int i = 0; i < 5; i++) {
                boolean own = (pointer >> i) % 2 == 1;
                boolean above = (pointer >> (i + 1)) % 2 == 1;
                bits[i] = gray ? own != above : own;
            }
            return bits;
        }

        int number(boolean[] bits) {
            int sum = 0;
            for (int i = 4; i >= 0; i--) {
                sum = sum * 2 + (bits[i] ? 1 : 0);
            }
            return sum;
        }

        int seenPointer(int side) {
            for (int pointer = 0; pointer < 32; pointer++) {
                if (number(code(pointer)) == number(sides[side].second)) {
                    return pointer;
                }
            }
            throw new IllegalStateException("no pointer has this code");
        }

        int seenFill(int side) {
            int seen = seenPointer(side);
            return Math.floorMod(side == 0 ? pointer(0) - seen : seen - pointer(1), 2 * depth());
        }

        boolean stuck(int side) {
            int stands = side == 0 ? (pointer(0) + depth()) % (2 * depth()) : pointer(1);
            return seenPointer(side) == stands;
        }

        boolean nearlyStuck(int side) {
            return side == 0 ? seenFill(0) >= depth() - settings[0] : seenFill(1) <= settings[1];
        }

        boolean ticks(int side, int at) {
            return sides[side].going && Math.floorMod(at + sides[side].phase, sides[side].period) == 0;
        }

        /** The latest word that was put into the place, by its number; -1 without one. */
        int numberAt(int place) {
            for (int number = putWords.size() - 1; number >= 0; number--) {
                if (number % depth() == place) {
                    return number;
                }
            }
            return -1;
        }

        void empty(int newK, boolean newGray) {
            k = newK;
            gray = newGray;
            for (Clock side : sides) {
                side.acts = 0;
                side.first = new boolean[5];
                side.second = new boolean[5];
            }
            putWords.clear();
            came.clear();
            right = 0;
        }

        /** Answers whether the writer ticked with a word and did not act. */
        boolean tick() {
            time++;
            boolean[] ticks = {ticks(0, time), ticks(1, time)};
            boolean[] acts = {ticks[0] && !waits.isEmpty() && !stuck(0), ticks[1] && !stuck(1)};
            boolean held = ticks[0] && !waits.isEmpty() && !acts[0];
            boolean[][] samples = {sample(1, acts[1]), sample(0, acts[0])};
            int place = pointer(1) % depth();
            int number = numberAt(place);
            int word = number < 0 ? 0 : putWords.get(number);
            for (int side = 0; side < 2; side++) {
                if (ticks[side]) {
                    Clock own = sides[side];
                    own.ticks++;
                    own.torn += acts[1 - side] ? 1 : 0;
                    own.second = own.first;
                    own.first = samples[side];
                }
            }
            if (acts[0]) {
                putWords.add(waits.remove(0));
                sides[0].acts++;
            }
            if (acts[1]) {
                boolean isRight = number == came.size();
                right += isRight ? 1 : 0;
                came.add(isRight ? word : word + 100);
                sides[1].acts++;
            }
            return held;
        }

        private boolean[] sample(int of, boolean acts) {
            boolean[] ahead = code(pointer(of));
            boolean[] behind = code((pointer(of) + 1) % (2 * depth()));
            boolean[] seen = ahead.clone();
            for (int bit = 1; acts && bit < 5; bit += 2) {
                seen[bit] = behind[bit];
            }
            return seen;
        }
    }

    private World world = new World();
    private World snapshot = null;
    private final List<World> history = new ArrayList<>();
    private String text = "";

    private void record() {
        history.add(world.copy());
        if (history.size() > 4) {
            history.remove(0);
        }
    }

    int build(int k, boolean gray) {
        if (k < 1 || k > 4) {
            return -2;
        }
        record();
        world.empty(k, gray);
        world.waits.clear();
        return world.depth();
    }

    int setClock(int side, int period, int phase) {
        if (side < 0 || side > 1) {
            return -1;
        }
        if (period < 1 || period > 50 || phase < 0 || phase > 49) {
            return -2;
        }
        int previous = world.sides[side].period;
        if (previous == period && world.sides[side].phase == phase) {
            return -5;
        }
        record();
        world.sides[side].period = period;
        world.sides[side].phase = phase;
        return previous;
    }

    int start(int side, boolean going) {
        if (side < 0 || side > 1) {
            return -1;
        }
        if (world.sides[side].going == going) {
            return -5;
        }
        record();
        world.sides[side].going = going;
        return world.time;
    }

    int set(int which, int value) {
        if (which < 0 || which > 1 || value < 0 || value > 15) {
            return -2;
        }
        int previous = world.settings[which];
        if (previous == value) {
            return -5;
        }
        record();
        world.settings[which] = value;
        return previous;
    }

    int push(int word) {
        if (word < 0 || word > 99) {
            return -2;
        }
        if (world.waits.size() == 20) {
            return -3;
        }
        record();
        world.waits.add(word);
        return world.waits.size();
    }

    /** A sign is allowed where the text up to it could still go on to a text of words, or is one. */
    private int fault() {
        for (int end = 1; end <= text.length(); end++) {
            Matcher matcher = TEXT.matcher(text.substring(0, end));
            if (!matcher.matches() && !matcher.hitEnd()) {
                return end - 1;
            }
        }
        return TEXT.matcher(text).matches() ? -1 : text.length();
    }

    int pushAll() {
        if (fault() >= 0) {
            return -100 - fault();
        }
        World after = world.copy();
        int words = 0;
        for (String part : text.split(",")) {
            if (part.startsWith(".")) {
                for (int i = Integer.parseInt(part.substring(1)); i > 0; i--) {
                    after.tick();
                }
            } else {
                String[] pieces = part.split("x");
                int often = pieces.length > 1 ? Integer.parseInt(pieces[1]) : 1;
                for (int i = 0; i < often; i++) {
                    after.waits.add(Integer.parseInt(pieces[0]));
                }
                words += often;
            }
            if (after.waits.size() > 20 || after.time > 1000000) {
                return -3;
            }
        }
        record();
        world = after;
        return words;
    }

    int pass(int times) {
        if (times < 1 || times > 500) {
            return -2;
        }
        if (world.time + times > 1000000) {
            return -3;
        }
        record();
        int before = world.came.size();
        for (int i = 0; i < times; i++) {
            world.tick();
        }
        return world.came.size() - before;
    }

    int type(char character) {
        if (text.length() == 60) {
            return -3;
        }
        text = text + character;
        return text.length();
    }

    int clearText() {
        int length = text.length();
        text = "";
        return length;
    }

    int undo() {
        if (history.isEmpty()) {
            return -5;
        }
        world = history.remove(history.size() - 1);
        return history.size();
    }

    int keep() {
        snapshot = world.copy();
        return world.time;
    }

    int restore() {
        if (snapshot == null) {
            return -5;
        }
        record();
        world = snapshot.copy();
        return world.time;
    }

    int side(int side, int what) {
        if (side < 0 || side > 1) {
            return -1;
        }
        if (what < 0 || what > 13) {
            return -2;
        }
        Clock own = world.sides[side];
        int[] numbers = {own.period, own.phase, own.going ? 1 : 0, world.pointer(side),
            world.number(world.code(world.pointer(side))), world.number(own.first), world.number(own.second),
            world.seenPointer(side), world.seenFill(side), world.stuck(side) ? 1 : 0,
            world.nearlyStuck(side) ? 1 : 0, nextTick(side), own.ticks, own.torn};
        return numbers[what];
    }

    private int nextTick(int side) {
        for (int times = 1; times <= 50; times++) {
            if (world.ticks(side, world.time + times)) {
                return times;
            }
        }
        return -5;
    }

    int place(int place, int what) {
        if (place < 0 || place >= world.depth()) {
            return -1;
        }
        if (what < 0 || what > 1) {
            return -2;
        }
        int number = world.numberAt(place);
        if (number < 0) {
            return what == 0 ? 0 : -5;
        }
        return what == 0 ? world.putWords.get(number) : number;
    }

    int waiting(int rank) {
        if (rank < 0) {
            return -2;
        }
        return rank < world.waits.size() ? world.waits.get(rank) : -5;
    }

    int taken(int ago) {
        if (ago < 0) {
            return -2;
        }
        int size = world.came.size();
        return ago < 16 && ago < size ? world.came.get(size - 1 - ago) : -5;
    }

    int doneIn() {
        World after = world.copy();
        for (int times = 0; times <= 5000; times++) {
            if (after.waits.isEmpty() && after.came.size() == after.putWords.size()) {
                return times;
            }
            after.tick();
        }
        return -5;
    }

    int leastDepth(int times) {
        if (times < 1 || times > 500) {
            return -2;
        }
        for (int k = 1; k <= 4; k++) {
            World tried = world.copy();
            tried.empty(k, world.gray);
            boolean held = false;
            for (int i = 0; i < times; i++) {
                held |= tried.tick();
            }
            if (!held) {
                return k;
            }
        }
        return -5;
    }

    int count(int what) {
        int fill = Math.floorMod(world.pointer(0) - world.pointer(1), 2 * world.depth());
        int came = world.came.size();
        int[] numbers = {world.time, world.k, world.depth(), world.gray ? 1 : 0, fill, world.waits.size(),
            world.putWords.size(), came, world.right, came - world.right, world.settings[0], world.settings[1],
            history.size(), text.length()};
        return what >= 0 && what < numbers.length ? numbers[what] : -2;
    }
}
