import java.io.IOException;

/** Each sentence of the document that names a boundary case has a test of its own, which names it. */
public final class BoundaryTest {
    public static void main(String[] args) throws IOException {
        Doc.open();
        runEach(StoryEdges.ALL);
        runEach(TextEdges.ALL);
        runEach(BenchEdges.ALL);
        runEach(ChangeEdges.ALL);
        Doc.close();
        Check.close("BoundaryTest");
    }

    /** What a test throws is counted against its sentence, and the others run all the same. */
    private static void runEach(Runnable[] tests) {
        for (Runnable test : tests) {
            try {
                test.run();
            } catch (RuntimeException e) {
                Check.due("it threw " + e + " and", 1, 0);
            }
        }
    }
}
