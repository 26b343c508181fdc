import java.io.IOException;

/**
 * Each sentence of the document has a test that names it: at its bounds and beyond them, with nothing and with all that
 * there may be, and with each call that it refuses. Words that no test names, or that do not stand in the document, are wrong.
 */
public final class EdgesTest {
    private EdgesTest() {
    }

    public static void main(String[] args) throws IOException {
        Tally tally = new Tally(Document.read());
        new TermsEdges(tally).all();
        new TextEdges(tally).all();
        new ReadingEdges(tally).all();
        new ActionEdges(tally).all();
        new WouldBeEdges(tally).all();
        new ScriptEdges(tally).all();
        new SlotEdges(tally).all();
        tally.end();
    }
}
