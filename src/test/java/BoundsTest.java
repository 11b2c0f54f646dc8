import java.io.IOException;

/**
 * The boundaries of promises 1 to 45 and of the Terms: each sentence of the document has a test of its own, which quotes it.
 * At the end the quotes are looked up in the document: none may be missing there, and no word of it may be left out.
 */
public final class BoundsTest {
    private BoundsTest() {
    }

    public static void main(String[] args) throws IOException {
        RowBounds.all();
        PageBounds.all();
        MachineBounds.all();
        HarmBounds.all();
        ToldBounds.all();
        Bound.dueWholeDocument();
        Check.end();
    }
}
