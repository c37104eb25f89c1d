import java.io.IOException;
import java.nio.file.Files;
import java.nio.file.Path;
import java.util.ArrayList;
import java.util.List;

/**
 * The document, and which of its words a test has named: so that no test names a sentence that the document does not
 * have, and no sentence of the terms and the promises stays without a test.
 */
final class Document {
    private static final Path PLACE = Path.of("..", "shared", "DOC.md");

    private static final class Section {
        final String name;
        final StringBuilder words = new StringBuilder();
        boolean[] named;

        Section(String name) {
            this.name = name;
        }

        boolean bears(String sentence) {
            int at = words.indexOf(sentence);
            for (int i = 0; at >= 0 && i < sentence.length(); i++) {
                named[at + i] = true;
            }
            return at >= 0;
        }

        String unnamed() {
            StringBuilder left = new StringBuilder();
            for (int i = 0; i < named.length; i++) {
                left.append(named[i] ? '\n' : words.charAt(i));
            }
            return left.toString().replaceAll("\\s*\n\\s*", " .. ").replaceAll("( \\.\\. )+", " .. ").trim();
        }
    }

    private final List<Section> sections = new ArrayList<>();
    private Section open;

    Document() throws IOException {
        Section section = new Section("");
        for (String line : Files.readAllLines(PLACE)) {
            if (line.startsWith("#")) {
                section = new Section(line.replaceAll("^#+ ", "").replaceAll(":.*", ""));
                sections.add(section);
            } else if (!line.isBlank()) {
                section.words.append(line.trim().replaceAll("\\s+", " ")).append(' ');
            }
        }
        for (Section each : sections) {
            each.named = new boolean[each.words.length()];
        }
    }

    /** The sentences that follow are those of this section. */
    void section(String name) {
        open = null;
        for (Section section : sections) {
            if (section.name.equals(name)) {
                open = section;
            }
        }
        Due.endOfSentence();
        Due.about(name);
        Due.is("the document has the section", open != null ? 1 : 0, 1);
        Due.about("");
    }

    /** The comparisons that follow test this sentence. */
    void sentence(String words) {
        Due.endOfSentence();
        Due.about(words);
        Due.is("the document has the sentence", open != null && open.bears(words) ? 1 : 0, 1);
        Due.about(words);
    }

    /** Whether each word of the terms and the promises has been named; FaceTest has the heads of the methods. */
    void allAreNamed() {
        Due.endOfSentence();
        for (Section section : sections) {
            boolean isPromise = section.name.startsWith("Promise ");
            if (isPromise) {
                int end = section.words.indexOf("`:");
                section.bears(section.words.substring(0, Math.max(end, 0) + 2));
            }
            if (isPromise || List.of("Terms", "Settings", "A tick", "Texts").contains(section.name)) {
                Due.about(section.name + " has words without a test: " + section.unnamed());
                Due.is("words without a test", section.unnamed().replace("..", "").isBlank() ? 0 : 1, 0);
            }
        }
    }
}
