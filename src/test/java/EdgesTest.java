/** Every sentence of the document that names a boundary case, each with a test of its own. */
public final class EdgesTest {
    public static void main(String[] args) {
        Edges e = new Edges();
        ClockEdges.all(e);
        MinuteEdges.all(e);
        TimeEdges.all(e);
        TextEdges.all(e);
        SheetEdges.all(e);
        ImageEdges.all(e);
        e.end();
    }
}
