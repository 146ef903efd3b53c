import java.io.IOException;
import java.nio.file.Files;
import java.nio.file.Path;
import java.util.ArrayList;
import java.util.HashSet;
import java.util.List;
import java.util.Set;

/**
 * The document's sentences and the tests that stand for them. A test begins with the sentence it is of, word for
 * word; at the end no test may quote what the document does not say, and no sentence may be without a test.
 */
final class Sentences {
    private final Check check = new Check();
    private final List<Section> sections = new ArrayList<>();
    private final Set<String> begun = new HashSet<>();
    private Section section;
    private String sentence = "";
    private int looked;

    /** One heading's text, blanks folded; quoted tells which of its signs stand in a test's sentence. */
    private static final class Section {
        final String title;
        final String text;
        final boolean[] quoted;

        Section(String title, String text) {
            this.title = title;
            this.text = text;
            this.quoted = new boolean[text.length()];
        }
    }

    Sentences(Path document) throws IOException {
        for (String part : Files.readString(document).split("(?m)^## ")) {
            int end = part.indexOf('\n');
            if (end > 0) {
                sections.add(new Section(part.substring(0, end).trim(), wordsOf(part.substring(end))));
            }
        }
    }

    /** What says nothing is left out: marks of the page's form, and a promise's signature, which the face test has. */
    private static String wordsOf(String text) {
        String words = text.replaceAll("(?m)^```.*$", " ")
            .replaceAll("(?m)^Ahead of the calls .*$", " ")
            .replaceAll("======== \\d", " ")
            .replaceAll("(?m)^`[^`\n]+`: ", " ");
        return folded(words);
    }

    private static String folded(String text) {
        return text.replaceAll("\\s+", " ").trim();
    }

    /** The tests that follow are of this heading, told by how it begins. */
    void under(String title) {
        endSentence();
        section = null;
        for (Section one : sections) {
            if (one.title.startsWith(title)) {
                section = one;
            }
        }
        check.holds("the document has a heading " + title, section != null);
    }

    /** The test of this sentence begins. */
    void says(String words) {
        endSentence();
        sentence = words;
        looked = 0;
        int at = section == null ? -1 : section.text.indexOf(words);
        check.holds("the document says under its heading: " + words, at >= 0);
        check.holds("one test alone is of: " + words, begun.add((section == null ? "" : section.title) + "|" + words));
        for (int i = at; at >= 0 && i < at + words.length(); i++) {
            section.quoted[i] = true;
        }
    }

    private void endSentence() {
        check.holds("the test looks at answers: " + sentence, sentence.isEmpty() || looked > 0);
        sentence = "";
    }

    void due(String call, long got, long want) {
        looked++;
        check.due("'" + sentence + "': " + call, got, want);
    }

    void same(String call, String got, String want) {
        looked++;
        check.holds("'" + sentence + "': " + call + " left " + got + ", due is " + want, got.equals(want));
    }

    /** Every sentence under a heading that begins so must have been quoted. */
    void allQuotedUnder(String title) {
        endSentence();
        for (Section one : sections) {
            if (one.title.startsWith(title)) {
                check.holds(one.title + ": no test is of '" + notQuotedOf(one) + "'", notQuotedOf(one).isEmpty());
            }
        }
    }

    private static String notQuotedOf(Section one) {
        StringBuilder left = new StringBuilder();
        for (int i = 0; i < one.text.length(); i++) {
            left.append(one.quoted[i] ? ' ' : one.text.charAt(i));
        }
        return folded(left.toString());
    }

    void end() {
        endSentence();
        check.end();
    }
}
