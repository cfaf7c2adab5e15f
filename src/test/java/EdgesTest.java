/** Each sentence of the document that names a boundary case, with checks of its own. */
public final class EdgesTest {
    private EdgesTest() {
    }

    public static void main(String[] args) {
        Sentences told = new Sentences();
        new TextEdges(told).all();
        new CallEdges(told).all();
        new NowEdges(told).all();
        new PinEdges(told).all();
        new LaterEdges(told).all();
        new ActEdges(told).all();
        told.end();
    }
}
