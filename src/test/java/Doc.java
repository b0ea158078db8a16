import java.io.IOException;
import java.nio.file.Files;
import java.nio.file.Path;
import java.util.Arrays;
import java.util.LinkedHashMap;
import java.util.Map;

/** The document's sentences, each named by the test that holds it: none is misquoted, none forgotten. */
final class Doc {
    private static final class Section {
        final String words;
        final boolean[] named;

        Section(String words) {
            this.words = words;
            named = new boolean[words.length()];
        }
    }

    private static final Map<String, Section> SECTIONS = new LinkedHashMap<>();

    private Doc() {
    }

    static void open() throws IOException {
        Path file = Path.of(System.getProperty("project.root", "."), "../shared/DOC.md");
        if (!Files.exists(file)) {
            System.out.println("no " + file + ": the sentences are not compared with it");
            return;
        }
        for (String part : Files.readString(file).split("\n## ")) {
            int line = part.indexOf('\n');
            SECTIONS.put(plain(part.substring(0, line)), new Section(plain(part.substring(line))));
        }
    }

    /** Without what is there for the eye alone, and without the signature of a promise. */
    private static String plain(String part) {
        return part.replaceAll("```[a-z]*|==== \\d\\.|`[^`\n]*`:", " ").replaceAll("\\s+", " ").strip();
    }

    /** What follows holds this sentence, or part of one; section: the heading, up to a colon. */
    static void says(String heading, String words) {
        Check.by(heading + " \"" + words + "\"");
        if (SECTIONS.isEmpty()) {
            return;
        }
        Section section = find(heading);
        int at = section == null ? -1 : section.words.indexOf(words);
        Check.due("these words stand there", at >= 0, true);
        if (at >= 0) {
            Arrays.fill(section.named, at, at + words.length(), true);
        }
    }

    private static Section find(String heading) {
        for (Map.Entry<String, Section> entry : SECTIONS.entrySet()) {
            if (entry.getKey().equals(heading) || entry.getKey().startsWith(heading + ":")) {
                return entry.getValue();
            }
        }
        return null;
    }

    /** Every word was named, but for the face, which FaceTest holds, and for what is not promised. */
    static void close() {
        for (Map.Entry<String, Section> entry : SECTIONS.entrySet()) {
            if (entry.getKey().matches("What it is|Terms|Promise .*")) {
                Check.by(entry.getKey());
                String left = forgotten(entry.getValue());
                Check.due("words that no test names: " + left, left.isEmpty(), true);
            }
        }
    }

    private static String forgotten(Section section) {
        StringBuilder left = new StringBuilder();
        for (int i = 0; i < section.named.length; i++) {
            char sign = section.words.charAt(i);
            if (!section.named[i] && (Character.isLetterOrDigit(sign) || left.length() > 0 && sign == ' ')) {
                left.append(sign);
            }
        }
        return left.toString().strip();
    }
}
