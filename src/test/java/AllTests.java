import java.nio.file.Path;

/** Runs every test of the project, in its directory. */
public final class AllTests {
    private AllTests() {
    }

    public static void main(String[] args) throws Exception {
        FaceTest.run();
        LanguageTest.run(Path.of("src/main/java/GrayPointers.java"));
        ReadmeTest.run(Path.of("README.md"), Path.of("src/test/java"));
        RingTest.run();
        CrossingTest.run();
        WordTest.run();
        TextTest.run();
        HistoryTest.run();
        ToldTest.run();
        RingEdgeTest.run();
        ClockEdgeTest.run();
        WordEdgeTest.run();
        TextEdgeTest.run();
        HistoryEdgeTest.run();
        CallEdgeTest.run();
        ToldEdgeTest.run();
        RefusedTest.run();
        BeyondReachTest.run();
        ModelTest.run();
        Due.close();
    }
}
