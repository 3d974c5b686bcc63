import java.io.IOException;
import java.nio.charset.StandardCharsets;
import java.nio.file.Files;
import java.nio.file.Path;
import java.util.LinkedHashMap;
import java.util.Map;

/** The document, section by section: each sentence is quoted by the test that is its own. */
final class Document {
    private static final Path TEXT = Path.of("../shared/DOC.md");

    private final Map<String, String> sections = new LinkedHashMap<>();
    private final Map<String, boolean[]> quoted = new LinkedHashMap<>();
    private String open = "";

    Document() throws IOException {
        String[] parts = Files.readString(TEXT, StandardCharsets.UTF_8).split("(?m)^## ");
        for (String part : parts) {
            String heading = part.lines().findFirst().orElse("");
            String text = plain(part.substring(heading.length()));
            sections.put(heading, text);
            quoted.put(heading, new boolean[text.length()]);
        }
    }

    // Calls in backquotes are the face (FaceTest looks at it); marks that set the text are no words.
    private static String plain(String text) {
        return text.replaceAll("```\\w*", " ").replaceAll("`[^`]*`:", " ").replaceAll("==== \\d\\.", " ")
                .replaceAll("\\s+", " ").trim();
    }

    /** The sentences behind this stand under the heading that begins so. */
    void open(String start) {
        open = "";
        for (String heading : sections.keySet()) {
            if (heading.startsWith(start)) {
                open = heading;
            }
        }
        if (open.isEmpty()) {
            Desk.fail("the document has no heading " + start);
        }
    }

    /** The test must find the sentence to hold. */
    void sentence(String quote, Runnable test) {
        mark(quote);
        int before = Desk.wrong();
        try {
            test.run();
        } catch (RuntimeException e) {
            Desk.fail("the test ends with " + e);
        }
        if (Desk.wrong() > before) {
            System.out.println("does not hold: " + open + ": " + quote);
        }
    }

    private void mark(String quote) {
        String text = sections.getOrDefault(open, "");
        int start = text.indexOf(quote);
        if (start < 0) {
            Desk.fail("the document does not say under " + open + ": " + quote);
        }
        for (int i = start; i >= 0 && i < start + quote.length(); i++) {
            quoted.get(open)[i] = true;
        }
    }

    /** No word of the terms and promises may be left without a test. */
    void isQuotedWhole() {
        for (String heading : sections.keySet()) {
            if (heading.startsWith("Terms") || heading.startsWith("Promise ")) {
                String rest = rest(heading);
                if (!rest.isEmpty()) {
                    Desk.fail("without a test: " + heading + ": " + rest);
                }
            }
        }
    }

    private String rest(String heading) {
        String text = sections.get(heading);
        boolean[] marks = quoted.get(heading);
        StringBuilder rest = new StringBuilder();
        for (int i = 0; i < text.length(); i++) {
            rest.append(marks[i] || !Character.isLetterOrDigit(text.charAt(i)) ? ' ' : text.charAt(i));
        }
        return rest.toString().replaceAll(" +", " ").trim();
    }
}
