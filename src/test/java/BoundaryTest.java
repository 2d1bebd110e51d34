/** Every sentence of the Terms and promises by the edges that it names: too small, too large, empty, full, refused. */
public final class BoundaryTest {
    public static void main(String[] args) throws Exception {
        Sentences s = new Sentences("BoundaryTest");
        new TermEdges(s).all();
        new LineEdges(s).all();
        new DayEdges(s).all();
        new HelpEdges(s).all();
        new ActEdges(s).all();
        s.close();
    }

    private BoundaryTest() {
    }
}
