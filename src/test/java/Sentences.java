import java.io.IOException;
import java.nio.file.Files;
import java.nio.file.Path;
import java.util.LinkedHashMap;
import java.util.LinkedHashSet;
import java.util.Map;
import java.util.Set;

/** The sentences of what the document says first, of its terms and of its promises, by their sections' headings. */
final class Sentences {
    private final Map<String, Set<String>> sections = new LinkedHashMap<>();

    Sentences(Path document) throws IOException {
        for (String section : Files.readString(document).split("(?m)^## ")) {
            String heading = section.lines().findFirst().orElse("").strip();
            if (isGeneral(heading) || heading.startsWith("Promise ")) {
                sections.put(heading, sentencesOf(section.substring(heading.length())));
            }
        }
    }

    /** Whether the section is none of a promise, so that a sentence of it may tell of nothing to test. */
    static boolean isGeneral(String heading) {
        return heading.equals("What it is") || heading.equals("Terms");
    }

    private static Set<String> sentencesOf(String section) {
        Set<String> sentences = new LinkedHashSet<>();
        for (String paragraph : section.lines().map(String::strip).toList()) {
            // The order of the interface's own headings says nothing about an answer.
            if (!paragraph.isEmpty() && !paragraph.startsWith("Ahead of the calls")) {
                String text = paragraph.replaceFirst("^`[^`]*`: ", "");
                sentences.addAll(Set.of(text.split("(?<=\\.) (?=[A-Z])")));
            }
        }
        return sentences;
    }

    Set<String> headings() {
        return sections.keySet();
    }

    Set<String> of(String heading) {
        return sections.getOrDefault(heading, Set.of());
    }
}
