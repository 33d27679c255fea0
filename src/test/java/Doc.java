import java.io.IOException;
import java.io.UncheckedIOException;
import java.nio.charset.StandardCharsets;
import java.nio.file.Files;
import java.nio.file.Path;
import java.util.ArrayList;
import java.util.LinkedHashMap;
import java.util.List;
import java.util.Map;

/** The document's words by their headings, and which of them were quoted by a test. */
final class Doc {
    private static final Path FILE = Path.of("../shared/DOC.md");
    private static final Map<String, List<String>> PARTS = read();
    private static final Map<String, String> QUOTED = new LinkedHashMap<>();

    private Doc() {
    }

    /** Whether that part says so; the words may run over the end of a line. */
    static boolean quote(String heading, String words) {
        QUOTED.merge(heading, words, (old, more) -> old + "\n" + more);
        return PARTS.containsKey(heading) && String.join(" ", PARTS.get(heading)).contains(words);
    }

    /** The lines "Returns" and "Throws" of all promises that no test has quoted. */
    static List<String> answersNotQuoted() {
        List<String> found = new ArrayList<>();
        for (Map.Entry<String, List<String>> part : PARTS.entrySet()) {
            for (String line : part.getValue()) {
                boolean isAnswer = line.startsWith("Returns ") || line.startsWith("Throws ");
                if (isAnswer && !QUOTED.getOrDefault(part.getKey(), "").contains(line)) {
                    found.add(part.getKey() + ": " + line);
                }
            }
        }
        return found;
    }

    private static Map<String, List<String>> read() {
        Map<String, List<String>> parts = new LinkedHashMap<>();
        String heading = "";
        for (String line : linesOfFile()) {
            if (line.startsWith("## ") || line.startsWith("== ")) {
                heading = line.substring(3).replaceFirst("^(Promise \\d+):.*", "$1");
            } else if (!line.isBlank()) {
                parts.computeIfAbsent(heading, none -> new ArrayList<>()).add(line.strip().replaceAll("\\s+", " "));
            }
        }
        return parts;
    }

    private static List<String> linesOfFile() {
        try {
            return Files.readAllLines(FILE, StandardCharsets.UTF_8);
        } catch (IOException e) {
            throw new UncheckedIOException(e);
        }
    }
}
