import java.io.IOException;

/** Each sentence of the document that names a boundary: at it, just inside, just outside. */
public final class EdgesTest {
    public static void main(String[] args) throws IOException {
        Edges on = new Edges();
        new TapeEdges(on.due()).all(on);
        new FigureEdges(on.due()).all(on);
        new DanceEdges(on.due()).all(on);
        new StandEdges(on.due()).all(on);
        new WayEdges(on.due()).all(on);
        new PrintEdges(on.due()).all(on);
        on.nothingLeftOut();
        on.due().end("EdgesTest");
    }
}
