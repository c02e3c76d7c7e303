import java.io.IOException;
import java.nio.file.Files;
import java.nio.file.Path;
import java.util.ArrayList;
import java.util.LinkedHashMap;
import java.util.List;
import java.util.Map;

/**
 * ../shared/DOC.md by the heads under which its sentences stand: "Promise 2: turn" and its like,
 * and "Terms: Moves" and its like, because each part of the terms begins with a title.
 */
final class Document {
    private static final int MOST_WORDS_OF_A_TITLE = 3;
    private static final String SIGNATURE = "^`[^`]*`: ";

    private final Map<String, String> texts = new LinkedHashMap<>();
    private final Map<String, List<String>> sentences = new LinkedHashMap<>();
    private String head = "";
    private String title = "";

    /** .ci/run tells where the document is; without it, the test is run from the project's folder. */
    static Document read() {
        Document document = new Document();
        try {
            String text = Files.readString(Path.of(System.getProperty("document", "../shared/DOC.md")));
            for (String paragraph : text.split("\n\\s*\n")) {
                document.take(paragraph.strip());
            }
        } catch (IOException e) {
            throw new IllegalStateException("the document cannot be read: " + e.getMessage());
        }
        return document;
    }

    List<String> heads() {
        return List.copyOf(texts.keySet());
    }

    boolean says(String wanted, String quoted) {
        return texts.getOrDefault(wanted, "").contains(quoted);
    }

    /** What is divided by a semicolon counts as two; a line that names a parameter is none. */
    List<String> sentencesUnder(String wanted) {
        return sentences.getOrDefault(wanted, List.of());
    }

    private void take(String paragraph) {
        if (paragraph.startsWith("## ")) {
            head = paragraph.substring(3);
            title = "";
            return;
        }
        String text = paragraph.replaceAll("\\s+", " ").replaceFirst(SIGNATURE, "");
        for (String sentence : text.split("(?<=[.]) (?=[A-Z])|; ")) {
            boolean isShort = sentence.split(" ").length <= MOST_WORDS_OF_A_TITLE;
            if (head.equals("Terms") && isShort && text.startsWith(sentence)) {
                title = ": " + sentence.replace(".", "");
            } else if (!text.startsWith("- ")) {
                sentences.computeIfAbsent(head + title, each -> new ArrayList<>()).add(sentence);
            }
        }
        texts.merge(head + title, text, (before, more) -> before + " " + more);
    }
}
