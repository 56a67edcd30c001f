import java.io.IOException;
import java.nio.charset.StandardCharsets;
import java.nio.file.Files;
import java.nio.file.Path;
import java.util.LinkedHashMap;
import java.util.Map;
import java.util.regex.Matcher;
import java.util.regex.Pattern;

/** ../shared/DOC.md by its headings: "Promise 3: guest" is kept as "Promise 3". */
final class Document {
    private static final Path FILE = Path.of("../shared/DOC.md");

    private Document() {
    }

    /** The text of each section in one line, without what stands between ``` and ```. */
    static Map<String, String> sections() throws IOException {
        String all = new String(Files.readAllBytes(FILE), StandardCharsets.UTF_8).replaceAll("(?s)```.*?```", " ");
        Map<String, String> sections = new LinkedHashMap<>();
        Matcher section = Pattern.compile("(?m)^#+ ([^:\n]+)[^\n]*\n((?:(?!#)[^\n]*(?:\n|$))*)").matcher(all);
        while (section.find()) {
            sections.put(section.group(1).strip(), section.group(2).replaceAll("\\s+", " ").strip());
        }
        return sections;
    }
}
