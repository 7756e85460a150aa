import java.io.IOException;
import java.nio.file.Files;
import java.nio.file.Path;
import java.util.Arrays;
import java.util.LinkedHashMap;
import java.util.Map;

/** The document's prose by headings, without the calls' lines, and which of its words a test stands by. */
final class Document {
    private final Map<String, String> prose = new LinkedHashMap<>();
    private final Map<String, boolean[]> quoted = new LinkedHashMap<>();

    Document(Path path) throws IOException {
        for (String part : Files.readString(path).split("(?m)^## ")) {
            int end = part.indexOf('\n');
            String heading = part.substring(0, end).replaceFirst(":.*", "").trim();
            String text = part.substring(end).replaceAll("(?m)^`[^`]*`:", "").replaceAll("\\s+", " ");
            prose.put(heading, text);
            quoted.put(heading, new boolean[text.length()]);
        }
    }

    void quote(Check.Said said) {
        String text = prose.getOrDefault(said.heading(), "");
        int from = text.indexOf(said.sentence());
        Check.same("'" + said.sentence() + "' stands under " + said.heading(), from >= 0, true);
        if (from >= 0) {
            Arrays.fill(quoted.get(said.heading()), from, from + said.sentence().length(), true);
        }
    }

    /** Every word stands in a sentence that has a test, but for the face, which is no prose, and what is not promised. */
    void checkThatAllIsQuoted() {
        int promises = 0;
        for (String heading : prose.keySet()) {
            boolean isPromise = heading.startsWith("Promise ");
            if (isPromise || heading.equals("Terms") || heading.equals("What it is")) {
                Check.same("words of " + heading + " without a test", unquoted(heading), "");
                promises += isPromise ? 1 : 0;
            }
        }
        Check.same("promises in the document", promises, 14);
    }

    private String unquoted(String heading) {
        StringBuilder left = new StringBuilder();
        String text = prose.get(heading);
        for (int i = 0; i < text.length(); i++) {
            left.append(quoted.get(heading)[i] ? ' ' : text.charAt(i));
        }
        return left.toString().replaceAll("\\s+", " ").trim();
    }
}
