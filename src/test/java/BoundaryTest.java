import java.io.IOException;

/** Each sentence of the document that names a boundary case has a test of its own, which names it. */
public final class BoundaryTest {
    public static void main(String[] args) throws IOException {
        Doc.open();
        TextEdges.all();
        BenchEdges.all();
        ChangeEdges.all();
        Doc.close();
        Check.close("BoundaryTest");
    }
}
