import java.io.IOException;

/** Every edge that the document names, promise by promise, each under its own sentence. */
public final class EdgesTest {
    public static void main(String[] args) throws IOException {
        Edges edges = new Edges();
        new EdgesOfText(edges).ask();
        new EdgesOfTape(edges).ask();
        new EdgesOfOrder(edges).ask();
        new EdgesOfLuck(edges).ask();
        new EdgesOfStretches(edges).ask();
        new EdgesOfLongOnes(edges).ask();
        new EdgesOfSlots(edges).ask();
        edges.finish();
    }
}
