import java.io.IOException;
import java.nio.file.Files;
import java.nio.file.Path;
import java.util.ArrayList;
import java.util.HashSet;
import java.util.List;
import java.util.Set;

/**
 * The sentences of the document's "Terms", with "Exceptions" and "Clarifications": a test names the
 * one that it is for, and at the end each must have been named.
 */
final class Sentences {
    private final List<String> all = new ArrayList<>();
    private final Set<String> tested = new HashSet<>();

    Sentences(Path document) throws IOException {
        String text = Files.readString(document);
        int from = text.indexOf("## Terms") + "## Terms".length();
        StringBuilder terms = new StringBuilder();
        for (String line : text.substring(from, text.indexOf("## Promise 1:")).split("\n")) {
            terms.append(line.startsWith("Ahead of the calls") ? "" : line).append(' ');
        }
        for (String part : terms.toString().trim().split("(?<=[.;:])\\s+")) {
            // What is left out are the names of the paragraphs, such as "Words."
            if (part.contains(" ")) {
                all.add(part.replaceAll("\\s+", " "));
            }
        }
    }

    /** Runs the test of a sentence, or of a part up to its next ; or : that is told as it stands. */
    void test(String sentence, Runnable test) {
        Check.is("the document says: " + sentence, all.contains(sentence), true);
        Check.is("told once: " + sentence, tested.add(sentence), true);
        Check.about(sentence);
        test.run();
        Check.about("");
    }

    void allTested() {
        Check.is("sentences", all.size() > 60, true);
        for (String sentence : all) {
            Check.is("has a test: " + sentence, tested.contains(sentence), true);
        }
    }
}
