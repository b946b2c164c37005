import java.io.IOException;
import java.nio.file.Files;
import java.nio.file.Path;
import java.util.LinkedHashMap;
import java.util.List;
import java.util.Map;

/** The document's parts that promise something, by name: "Use", "Terms", "Net" and on, "Promise 1" and on. */
final class Document {
    private static final Path PLACE = Path.of("../shared/DOC.md");
    private static final String NO_PROMISE = "Ahead of the calls";

    private Document() {
    }

    static List<String> lines() throws IOException {
        return Files.readAllLines(PLACE);
    }

    static Map<String, String> parts() throws IOException {
        Map<String, String> parts = new LinkedHashMap<>();
        String section = "";
        for (String line : lines()) {
            if (line.startsWith("## ")) {
                section = line.substring(3);
            } else if (!line.isEmpty() && !line.startsWith(NO_PROMISE)) {
                addLine(parts, section, line);
            }
        }
        return parts;
    }

    private static void addLine(Map<String, String> parts, String section, String line) {
        if (section.equals("What it is") && line.startsWith("An object is used")) {
            parts.put("Use", line);
        } else if (section.equals("Terms")) {
            int stop = line.indexOf(". ");
            boolean isNamed = stop > 0 && line.indexOf(' ') > stop;
            parts.put(isNamed ? line.substring(0, stop) : section, isNamed ? line.substring(stop + 2) : line);
        } else if (section.startsWith("Promise ")) {
            String name = section.substring(0, section.indexOf(':'));
            boolean isFirst = !parts.containsKey(name);
            // The signature ahead of the first line is held against the face by LanguageTest.
            String text = isFirst ? line.substring(line.indexOf("`: ") + 3) : parts.get(name) + "\n" + line;
            parts.put(name, text);
        }
    }
}
