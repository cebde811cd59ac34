import java.io.IOException;
import java.nio.file.Files;
import java.nio.file.Path;
import java.util.ArrayList;
import java.util.LinkedHashMap;
import java.util.List;
import java.util.Map;

/** The sentences of the document, section by section, without the signatures and the parameters. */
final class Document {
    private static final Path FILE = Path.of("../shared/DOC.md");

    private Document() {
    }

    static Map<String, List<String>> sections() throws IOException {
        Map<String, List<String>> sections = new LinkedHashMap<>();
        for (String section : Files.readString(FILE).split("(?m)^## ")) {
            String title = section.lines().findFirst().orElse("").replaceFirst(":.*", "").strip();
            List<String> sentences = new ArrayList<>();
            String body = section.substring(section.indexOf('\n') + 1);
            for (String paragraph : body.split("\n\\s*\n")) {
                addSentences(paragraph.strip().replaceAll("\\s+", " "), sentences);
            }
            sections.put(title, sentences);
        }
        return sections;
    }

    private static void addSentences(String paragraph, List<String> sentences) {
        if (paragraph.startsWith("- ") || paragraph.startsWith("```java") || paragraph.startsWith("Ahead of the calls")) {
            return;
        }
        String text = paragraph.replaceFirst("^`[^`]*`: ", "");
        for (String sentence : text.split("(?<=\\.) (?=[A-Z\"])")) {
            // One word is the heading of a paragraph of the terms.
            if (sentence.contains(" ")) {
                sentences.add(sentence);
            }
        }
    }
}
