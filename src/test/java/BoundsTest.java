import java.io.IOException;
import java.nio.file.Path;

/** Every sentence of the document's "What it is", terms and promises, at the bounds that it names. */
public final class BoundsTest {
    public static void main(String[] args) throws IOException {
        TermsBounds.check();
        TextsBounds.check();
        MatchesBounds.check();
        JoinsBounds.check();
        RefusedCalls.check();
        Document document = new Document(Path.of(System.getProperty("ringmatches.document")));
        for (Check.Said said : Check.allSaid()) {
            document.quote(said);
        }
        document.checkThatAllIsQuoted();
        Check.end();
    }
}
