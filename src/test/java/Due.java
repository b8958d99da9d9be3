/** Counts the answers that are as due, and prints those that are not. */
final class Due {
    private static int passed = 0;
    private static int failed = 0;

    private Due() {
    }

    static void is(String what, long want, long got) {
        if (got == want) {
            passed++;
        } else {
            failed++;
            System.out.println(what + " answered " + got + ", due is " + want);
        }
    }

    static void isTrue(String what, boolean so) {
        is(what, 1, so ? 1 : 0);
    }

    static void same(String what, String want, String got) {
        if (got.equals(want)) {
            passed++;
        } else {
            failed++;
            System.out.println(what + " told " + got + ", due is " + want);
        }
    }

    static int failures() {
        return failed;
    }

    static void close() {
        System.out.println(passed + " passed, " + failed + " failed");
        if (failed > 0) {
            System.exit(1);
        }
    }
}
