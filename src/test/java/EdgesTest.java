import java.io.IOException;
import java.nio.file.Path;

/** Every boundary that ../shared/DOC.md names, sentence by sentence: the last that is good, the first that is not. */
final class EdgesTest {
    public static void main(String[] args) throws IOException {
        Ledger ledger = new Ledger(Path.of("../shared/DOC.md"));
        new TextEdges(ledger).all();
        new BeatEdges(ledger).all();
        new PatternEdges(ledger).all();
        new AheadEdges(ledger).all();
        new GlitterEdges(ledger).all();
        ledger.everyWordIsQuoted();
        ledger.check.end();
    }
}
