import java.util.ArrayList;
import java.util.HashMap;
import java.util.List;
import java.util.Map;

/**
 * Tests of single sentences: each one names the head under which the document says it, quotes it,
 * and makes a run of calls on a new object, of which one answers otherwise if the sentence is
 * broken. A quotation that the document does not have is a fault, and so is a sentence of the terms
 * or of a promise that no test quotes.
 */
final class Sentences {
    private static final Document DOCUMENT = Document.read();
    private static final Map<String, List<String>> QUOTED = new HashMap<>();

    private final String head;
    private final String name;

    private Sentences(String head, String name) {
        this.head = head;
        this.name = name;
    }

    /** A head that is a promise's own. */
    static Sentences under(String head) {
        return new Sentences(head, head);
    }

    /** A head ahead of the promises, and the promises for which its sentences count. */
    static Sentences under(String head, String promises) {
        return new Sentences(head, head + " (" + promises + ")");
    }

    Sentences says(String sentence, String calls) {
        String test = name + ": \"" + sentence + "\"";
        if (!DOCUMENT.says(head, sentence)) {
            Calls.tellWrong("the document does not say under " + test);
        }
        QUOTED.computeIfAbsent(head, each -> new ArrayList<>()).add(sentence);
        Calls.run(test, calls);
        return this;
    }

    static void end() {
        for (String head : DOCUMENT.heads()) {
            // ExamplesTest has the examples, to the letter.
            boolean isTested = head.startsWith("Promise") || head.startsWith("Terms");
            if (isTested && !head.equals("Terms: Examples")) {
                tellUntested(head);
            }
        }
        Calls.end();
    }

    private static void tellUntested(String head) {
        for (String sentence : DOCUMENT.sentencesUnder(head)) {
            if (!isQuoted(head, sentence)) {
                Calls.tellWrong(head + ": no test of \"" + sentence + "\"");
            }
        }
    }

    private static boolean isQuoted(String head, String sentence) {
        for (String quoted : QUOTED.getOrDefault(head, List.of())) {
            if (quoted.contains(sentence) || sentence.contains(quoted)) {
                return true;
            }
        }
        return false;
    }
}
