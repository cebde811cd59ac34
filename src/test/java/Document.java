import java.io.IOException;
import java.nio.file.Files;
import java.nio.file.Path;
import java.util.ArrayList;
import java.util.LinkedHashMap;
import java.util.List;
import java.util.Map;

/** The document: its public face, and its sentences, section by section. */
final class Document {
    private static final Path FILE = Path.of("../shared/DOC.md");

    private Document() {
    }

    /** The methods of the public face, each with its types and exceptions: "int link(int,int) OneException Another". */
    static List<String> face() throws IOException {
        List<String> face = new ArrayList<>();
        for (String line : Files.readAllLines(FILE)) {
            if (line.matches("    public \\w+ \\w+\\(.*;")) {
                String[] parts = line.strip().replace("public ", "").split("[();]", -1);
                String types = parts[1].replaceAll("(\\w+) \\w+", "$1").replace(", ", ",");
                String exceptions = parts[2].replace(" throws", "").replace(",", "");
                face.add(parts[0] + "(" + types + ")" + exceptions);
            }
        }
        return face;
    }

    /** The sentences, without the signatures and the parameters. */
    static Map<String, List<String>> sections() throws IOException {
        Map<String, List<String>> sections = new LinkedHashMap<>();
        for (String section : Files.readString(FILE).split("(?m)^## ")) {
            String title = section.lines().findFirst().orElse("").replaceFirst(":.*", "").strip();
            List<String> sentences = new ArrayList<>();
            String body = section.substring(section.indexOf('\n') + 1);
            for (String paragraph : body.split("\n\\s*\n")) {
                addSentences(paragraph.strip().replaceAll("\\s+", " "), sentences);
            }
            sections.put(title, sentences);
        }
        return sections;
    }

    private static void addSentences(String paragraph, List<String> sentences) {
        if (paragraph.startsWith("- ") || paragraph.startsWith("```java") || paragraph.startsWith("Ahead of the calls")) {
            return;
        }
        String text = paragraph.replaceFirst("^`[^`]*`: ", "");
        for (String sentence : text.split("(?<=\\.) (?=[A-Z\"])")) {
            // One word is the heading of a paragraph of the terms.
            if (sentence.contains(" ")) {
                sentences.add(sentence);
            }
        }
    }
}
