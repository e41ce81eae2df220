import java.io.IOException;
import java.nio.file.Files;
import java.nio.file.Path;
import java.util.ArrayList;
import java.util.LinkedHashMap;
import java.util.List;
import java.util.Map;
import java.util.regex.Matcher;
import java.util.regex.Pattern;

/** The document's parts by their headings, and what it tells of the calls: their face, their sections, their promises. */
final class Document {
    private final Map<String, String> parts = new LinkedHashMap<>();

    Document(Path path) throws IOException {
        for (String part : Files.readString(path).split("(?m)^## ")) {
            int end = part.indexOf('\n');
            parts.put(end < 0 ? part : part.substring(0, end), end < 0 ? "" : part.substring(end));
        }
    }

    /** Each part's text by its heading; ahead of the first of them stands the title. */
    Map<String, String> parts() {
        return parts;
    }

    private List<String> faceLines() {
        List<String> lines = new ArrayList<>();
        for (String line : parts.getOrDefault("The public face", "").lines().toList()) {
            if (!line.isBlank() && !line.startsWith("```") && !line.equals("}")) {
                lines.add(line.strip());
            }
        }
        return lines;
    }

    private static boolean isCall(String line) {
        return line.matches("public (int|long) \\w+\\(.*\\);");
    }

    /** The calls as they are told, in their order. */
    List<String> face() {
        return faceLines().stream().filter(Document::isCall).map(line -> line.replace(";", "")).toList();
    }

    /** What the face says beside the calls: the class, the constants, the constructor. */
    List<String> otherLines() {
        return faceLines().stream().filter(line -> !isCall(line)).toList();
    }

    List<String> names() {
        return face().stream().map(line -> line.replaceAll("^public \\w+ (\\w+)\\(.*$", "$1")).toList();
    }

    /** What the interface says ahead of some calls, and the names of these. */
    Map<String, List<String>> sections() {
        Map<String, List<String>> found = new LinkedHashMap<>();
        Matcher m = Pattern.compile("(?m)^Ahead of the calls (.*) the interface says: (---- .*)\\.$")
                .matcher(parts.getOrDefault("Terms", ""));
        while (m.find()) {
            found.put(m.group(2), List.of(m.group(1).replace("`", "").split(", ")));
        }
        return found;
    }

    /** The call that each promise is of, from promise 1 on. */
    List<String> promised() {
        List<String> calls = new ArrayList<>();
        for (Map.Entry<String, String> part : parts.entrySet()) {
            if (part.getKey().startsWith("Promise " + (calls.size() + 1) + ": ")) {
                calls.add(part.getValue().replaceFirst("(?s)^\\s*`([^`]*)`: .*$", "$1"));
            }
        }
        return calls;
    }
}
