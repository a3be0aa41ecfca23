import java.io.IOException;
import java.nio.file.Files;
import java.nio.file.Path;
import java.util.TreeSet;

/** Checks told by the sentence of the document that they hold to. */
final class Sentences {
    private static final Path DOC = Path.of("../shared/DOC.md");

    private final Check check;
    private final String doc;
    private final TreeSet<String> named = new TreeSet<>();
    private int sentences;
    private int asked;
    private String now = "";

    Sentences(Check check) throws IOException {
        this.check = check;
        this.doc = Files.exists(DOC) ? oneLine(Files.readString(DOC)) : null;
    }

    private static String oneLine(String text) {
        return text.replaceAll("\\s+", " ");
    }

    /** What comes next holds to these words; they stand in that part of the document. */
    void of(String part, String words) {
        endOfSentence();
        named.add(part);
        sentences++;
        now = part + ", \"" + words + "\": ";
        if (doc != null) {
            check.isTrue(now + "stands in the document", told(part).contains(words));
        }
    }

    private void endOfSentence() {
        check.isTrue(now + "something is asked for it", sentences == 0 || asked > 0);
        asked = 0;
    }

    private String told(String part) {
        String head = part.startsWith("Promise") ? "## " + part + ":" : part.startsWith("Term") ? "==== " + part.substring(5) + " " : "";
        int from = doc.indexOf(head);
        if (from < 0) {
            return "";
        }
        int behind = from + head.length();
        int promise = doc.indexOf(" ## ", behind), term = doc.indexOf(" ==== ", behind);
        int end = Math.min(promise < 0 ? doc.length() : promise, term < 0 ? doc.length() : term);
        return head.isEmpty() ? doc : doc.substring(from, end);
    }

    void due(String call, long got, long want) {
        asked++;
        check.due(now + call, got, want);
    }

    void isTrue(String what, boolean holds) {
        asked++;
        check.isTrue(now + what, holds);
    }

    /** No promise is without a sentence. */
    void end(int promises) {
        endOfSentence();
        now = "";
        for (int i = 1; i <= promises; i++) {
            check.isTrue("promise " + i + " has a test of its own", named.contains("Promise " + i));
        }
        System.out.println(sentences + " sentences");
    }
}
