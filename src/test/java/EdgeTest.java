import java.io.IOException;

/**
 * A test of its own for each sentence of DOC.md that names a boundary case: what is just inside of it,
 * what is just outside, and that a refused call has changed nothing. It fails as well if a sentence of
 * the Description or of a promise is quoted by no test.
 */
public final class EdgeTest {
    private EdgeTest() {
    }

    public static void main(String[] args) throws IOException {
        Edges.start();
        GivingEdges.all();
        DerivingEdges.all();
        MovingEdges.all();
        AskingEdges.all();
        FollowingEdges.all();
        CoordinateEdges.all();
        ScriptEdges.all();
        UndoEdges.all();
        Edges.end();
        Check.end("EdgeTest");
    }
}
