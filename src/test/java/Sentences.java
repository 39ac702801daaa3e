import java.io.IOException;
import java.nio.charset.StandardCharsets;
import java.nio.file.Files;
import java.nio.file.Path;
import java.util.BitSet;
import java.util.LinkedHashMap;
import java.util.Map;

/**
 * The sentences of the document. A test quotes the one that it holds, so that none can be made up,
 * and those that no test quotes can be told.
 */
final class Sentences {
    private static final Path DOCUMENT = Path.of("../shared/DOC.md");
    private static final String CALL = "`(?:(?:int|double|float) )?\\w+\\([^`]*\\)`:";

    private final Due due;
    private final Map<String, String> parts = new LinkedHashMap<>();
    private final Map<String, BitSet> quoted = new LinkedHashMap<>();

    Sentences(Due due) throws IOException {
        this.due = due;
        if (Files.exists(DOCUMENT)) {
            read(Files.readString(DOCUMENT, StandardCharsets.UTF_8));
        } else {
            System.out.println("The document is not there, so that no sentence is looked up in it: " + DOCUMENT);
        }
    }

    private void read(String document) {
        for (String section : document.split("\n## ")) {
            int end = section.indexOf('\n');
            if (end >= 0) {
                takeSection(section.substring(0, end), section.substring(end));
            }
        }
        due.part("the document");
        due.is("parts of the document: 12 of the terms, the constants, what it is, and 33 promises", parts.size(), 47);
    }

    private void takeSection(String title, String body) {
        if (title.startsWith("Promise ")) {
            take(title.substring(0, title.indexOf(':')), body.replaceAll(CALL, ""));
        } else if (title.equals("What it is")) {
            take(title, body);
        } else if (title.equals("Terms")) {
            for (String paragraph : body.strip().split("\n\n")) {
                takeTerm(paragraph);
            }
        }
    }

    /** A term is named by the words ahead of its first full stop, as in "Loops. A lantern leads to ..". */
    private void takeTerm(String paragraph) {
        if (paragraph.startsWith("All numbers ")) {
            take("Numbers", paragraph);
        } else if (paragraph.startsWith("`") || paragraph.startsWith("The constants: ")) {
            take("Constants", paragraph);
        } else if (!paragraph.startsWith("Ahead of the calls ")) {
            String[] term = paragraph.split("\\. ", 2);
            take(term.length == 2 ? term[0] : "Terms", term[term.length - 1]);
        }
    }

    private void take(String part, String body) {
        String earlier = parts.containsKey(part) ? parts.get(part) + " " : "";
        parts.put(part, earlier + body.strip().replaceAll("\\s+", " "));
        quoted.put(part, new BitSet());
    }

    /** What follows holds this sentence; each place of the part where it stands is quoted then. */
    void quote(String part, String sentence) {
        due.part(part + ", \"" + sentence + "\"");
        mark(part, sentence);
    }

    /** The sentence that begins so asks for nothing that a test could hold. */
    void namesNoEdge(String part, String start) {
        due.part(part + ", \"" + start + "\"");
        String body = parts.getOrDefault(part, "");
        int at = Math.max(body.indexOf(start), 0);
        int end = body.indexOf('.', at);
        mark(part, body.substring(at, end + 1));
    }

    private void mark(String part, String sentence) {
        if (parts.isEmpty()) {
            return;
        }
        String body = parts.getOrDefault(part, "");
        int at = body.indexOf(sentence);
        due.isTrue("that the document says so", at >= 0);
        while (at >= 0) {
            quoted.get(part).set(at, at + sentence.length());
            at = body.indexOf(sentence, at + 1);
        }
    }

    /** Fails for each run of words that no test has quoted. */
    void lookForGaps() {
        for (Map.Entry<String, String> entry : parts.entrySet()) {
            due.part(entry.getKey());
            BitSet marked = quoted.get(entry.getKey());
            String body = entry.getValue();
            int start = marked.nextClearBit(0);
            while (start < body.length()) {
                int end = marked.nextSetBit(start) < 0 ? body.length() : marked.nextSetBit(start);
                String gap = body.substring(start, end);
                due.isTrue("that a test quotes \"" + gap.strip() + "\"", !gap.matches(".*[A-Za-z0-9].*"));
                start = marked.nextClearBit(end);
            }
        }
    }
}
