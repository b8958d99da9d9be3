import java.nio.file.Path;

/** Runs every test of the project; the argument is the path of GrayPointers.java. */
public final class AllTests {
    private AllTests() {
    }

    public static void main(String[] args) throws Exception {
        Path source = Path.of(args.length > 0 ? args[0] : "src/main/java/GrayPointers.java");
        FaceTest.run();
        LanguageTest.run(source);
        RingTest.run();
        CrossingTest.run();
        WordTest.run();
        TextTest.run();
        HistoryTest.run();
        ToldTest.run();
        RingEdgeTest.run();
        ClockEdgeTest.run();
        WordEdgeTest.run();
        TextEdgeTest.run();
        HistoryEdgeTest.run();
        CallEdgeTest.run();
        ToldEdgeTest.run();
        RefusedTest.run();
        BeyondReachTest.run();
        ModelTest.run();
        Due.close();
    }
}
