import java.io.IOException;
import java.lang.reflect.Method;
import java.nio.charset.StandardCharsets;
import java.nio.file.Files;
import java.nio.file.Path;
import java.util.ArrayList;
import java.util.List;

/**
 * Compares what the tests of edges quote with the document. By hand: java -cp DIR Quotes ../shared/DOC.md
 * tells quotes that the document hasn't, and words of its Terms and Promises that no test quotes.
 */
public final class Quotes {
    private final String document;
    private final boolean[] quoted;
    private int strange;

    private Quotes(String document) {
        this.document = document;
        this.quoted = new boolean[document.length()];
    }

    public static void main(String[] args) throws IOException {
        String text = Files.readString(Path.of(args.length > 0 ? args[0] : "../shared/DOC.md"), StandardCharsets.UTF_8);
        Quotes quotes = new Quotes(text.replace("```text", "").replace("```", "").replaceAll("\\s+", " "));
        for (Class<?> tests : Edges.CLASSES) {
            for (Method m : Edges.of(tests)) {
                for (String words : m.getAnnotation(Says.class).value()) {
                    quotes.mark(m.getName(), words);
                }
            }
        }
        List<String> silent = quotes.silent();
        for (String words : silent) {
            System.out.println("no test quotes: " + words);
        }
        System.out.println(quotes.strange + " quotes aren't the document's, " + silent.size() + " of its parts are quoted by none");
    }

    /** A promise's words may stand in its own part, or in the Terms. */
    private void mark(String test, String words) {
        int terms = document.indexOf("## Terms");
        int promises = document.indexOf("## Promise 1:");
        String number = test.substring(0, test.indexOf('_')).replaceAll("[a-z]", "");
        int own = document.indexOf("## Promise " + number + ":");
        boolean found = markWithin(words, own, document.indexOf("## ", own + 3));
        found |= markWithin(words, terms, promises);
        found |= markWithin(words, 0, document.indexOf("## The public face"));
        if (!found) {
            strange++;
            System.out.println("not the document's: " + test + ": " + words);
        }
    }

    private boolean markWithin(String words, int start, int end) {
        int at = document.indexOf(words, start);
        boolean found = false;
        while (at >= 0 && at + words.length() <= end) {
            java.util.Arrays.fill(quoted, at, at + words.length(), true);
            found = true;
            at = document.indexOf(words, at + 1);
        }
        return found;
    }

    private List<String> silent() {
        List<String> all = new ArrayList<>();
        int end = document.indexOf("## Not promised");
        StringBuilder words = new StringBuilder();
        for (int i = document.indexOf("I. THE TEXT"); i <= end; i++) {
            if (i < end && !quoted[i]) {
                words.append(document.charAt(i));
            } else {
                String left = words.toString().replaceAll("## Promise [^`]*`[^`]*`:|## Promise.*", "").replaceAll("[ ,;:.()]+", " ").trim();
                if (!left.isEmpty()) {
                    all.add(left);
                }
                words.setLength(0);
            }
        }
        return all;
    }
}
