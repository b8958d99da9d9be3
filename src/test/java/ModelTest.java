/** Long runs of mixed calls: each answer, and all that is told, is compared with the model's. */
final class ModelTest {
    private static final int RUNS = 400;
    private static final int CALLS = 512;
    private static final String SIGNS = "0123456789,,,,..xx";
    private static final int[] PERIODS = {1, 1, 1, 2, 2, 3, 4, 5, 7, 10, 14, 49, 50};

    private final GrayPointers program = new GrayPointers();
    private final Model model = new Model();
    private final String name;
    private long seed;

    private ModelTest(int run) {
        name = "run " + run;
        seed = 0x9E3779B97F4A7C15L * (run + 1);
    }

    static void run() {
        for (int run = 0; run < RUNS && Due.failures() == 0; run++) {
            ModelTest test = new ModelTest(run);
            for (int call = 0; call < CALLS && Due.failures() == 0; call++) {
                test.oneCall(call);
            }
        }
    }

    /** A row of numbers that is the same in each run of the tests. */
    private int next(int bound) {
        seed = seed * 6364136223846793005L + 1442695040888963407L;
        return (int) ((seed >>> 33) % bound);
    }

    /** Mostly within the bounds, now and then just outside. */
    private int near(int least, int most) {
        return next(25) == 0 ? (next(2) == 0 ? least - 1 : most + 1) : least + next(most - least + 1);
    }

    private void oneCall(int call) {
        String at = name + ", call " + call + ": ";
        int pick = next(100);
        if (pick < 3) {
            build(at);
        } else if (pick < 9) {
            int side = near(0, 1);
            int period = next(20) == 0 ? near(1, 50) : PERIODS[next(PERIODS.length)];
            int phase = next(3) == 0 ? near(0, 49) : 0;
            Due.is(at + "setClock(" + side + ", " + period + ", " + phase + ")",
                model.setClock(side, period, phase), program.setClock(side, period, phase));
        } else if (pick < 14) {
            int side = near(0, 1);
            boolean going = next(3) > 0;
            Due.is(at + "start(" + side + ", " + going + ")", model.start(side, going), program.start(side, going));
        } else if (pick < 17) {
            int which = near(0, 1);
            int value = near(0, 15);
            Due.is(at + "set(" + which + ", " + value + ")", model.set(which, value), program.set(which, value));
        } else if (pick < 55) {
            int word = near(0, 99);
            Due.is(at + "push(" + word + ")", model.push(word), program.push(word));
        } else if (pick < 75) {
            int times = next(12) == 0 ? near(1, 500) : near(1, next(2) == 0 ? 3 : 25);
            Due.is(at + "pass(" + times + ")", model.pass(times), program.pass(times));
        } else if (pick < 82) {
            text(at);
        } else if (pick < 90) {
            history(at, pick);
        } else if (pick < 96) {
            int times = near(1, 500);
            Due.is(at + "leastDepth(" + times + ")", model.leastDepth(times), program.leastDepth(times));
        } else {
            Due.is(at + "doneIn()", model.doneIn(), program.doneIn());
        }
        compareAll(at);
    }

    private void build(String at) {
        int k = near(1, 4);
        boolean gray = next(2) == 0;
        Due.is(at + "build(" + k + ", " + gray + ")", model.build(k, gray), program.build(k, gray));
    }

    private void text(String at) {
        if (next(3) > 0) {
            Due.is(at + "clearText()", model.clearText(), program.clearText());
        }
        int signs = next(9) == 0 ? next(70) : next(12);
        for (int i = 0; i < signs; i++) {
            char sign = next(40) == 0 ? (char) next(65536) : SIGNS.charAt(next(SIGNS.length()));
            Due.is(at + "type(" + (int) sign + ")", model.type(sign), program.type(sign));
        }
        if (next(2) == 0) {
            goodText(at);
        }
        Due.is(at + "pushAll()", model.pushAll(), program.pushAll());
    }

    private void goodText(String at) {
        Due.is(at + "clearText()", model.clearText(), program.clearText());
        int parts = 1 + next(8);
        for (int part = 0; part < parts; part++) {
            String words = next(3) == 0 ? "." + (1 + next(30)) : "" + next(100) + (next(3) == 0 ? "x" + (2 + next(8)) : "");
            for (char sign : (part > 0 ? "," + words : words).toCharArray()) {
                Due.is(at + "type(" + (int) sign + ")", model.type(sign), program.type(sign));
            }
        }
    }

    private void history(String at, int pick) {
        if (pick < 86) {
            Due.is(at + "undo()", model.undo(), program.undo());
        } else if (pick < 88) {
            Due.is(at + "keep()", model.keep(), program.keep());
        } else {
            Due.is(at + "restore()", model.restore(), program.restore());
        }
    }

    private void compareAll(String at) {
        for (int what = -1; what <= 14; what++) {
            for (int side = -1; side <= 2; side++) {
                Due.is(at + "side(" + side + ", " + what + ")", model.side(side, what), program.side(side, what));
            }
            Due.is(at + "count(" + what + ")", model.count(what), program.count(what));
        }
        for (int place = -1; place <= 16; place++) {
            for (int what = -1; what <= 2; what++) {
                Due.is(at + "place(" + place + ", " + what + ")", model.place(place, what), program.place(place, what));
            }
        }
        for (int rank = -1; rank <= 20; rank++) {
            Due.is(at + "waiting(" + rank + ")", model.waiting(rank), program.waiting(rank));
            Due.is(at + "taken(" + rank + ")", model.taken(rank), program.taken(rank));
        }
    }
}
