import java.io.IOException;
import java.io.UncheckedIOException;
import java.nio.file.Files;
import java.nio.file.Path;
import java.util.ArrayList;
import java.util.LinkedHashMap;
import java.util.List;
import java.util.Map;
import java.util.regex.Matcher;
import java.util.regex.Pattern;

/** What ../shared/DOC.md says, by its headings ("Terms", "Promise 3"). */
final class Document {
    private static final Map<String, String> SECTIONS = read(Path.of("../shared/DOC.md"));
    private static final Pattern BLOCK = Pattern.compile("(?s)```java\n(.*?)```");
    private static final Pattern OWN_FACE = Pattern.compile("^\\s*`([^`]*)`: ");

    private Document() {
    }

    private static Map<String, String> read(Path path) {
        Map<String, String> found = new LinkedHashMap<>();
        try {
            for (String section : Files.readString(path).split("(?m)^## ")) {
                String[] headAndText = section.split("\n", 2);
                String text = headAndText.length < 2 ? "" : headAndText[1];
                found.put(headAndText[0].split(":")[0].trim(), text);
            }
        } catch (IOException e) {
            throw new UncheckedIOException("the document cannot be read", e);
        }
        return found;
    }

    /** The text below a heading, in one line, without the method's face; empty if there is none. */
    static String words(String heading) {
        String text = SECTIONS.getOrDefault(heading, "");
        return OWN_FACE.matcher(text).replaceFirst("").replaceAll("\\s+", " ").trim();
    }

    /** The face that stands before a promise's words, as "int node()"; empty if there is none. */
    static String faceOf(int promise) {
        Matcher matcher = OWN_FACE.matcher(SECTIONS.getOrDefault("Promise " + promise, ""));
        return matcher.find() ? matcher.group(1) : "";
    }

    static int promises() {
        int count = 0;
        while (SECTIONS.containsKey("Promise " + (count + 1))) {
            count++;
        }
        return count;
    }

    /** The lines of 'The public face' between the class's own braces, without blanks around them. */
    static List<String> face() {
        List<String> found = new ArrayList<>();
        Matcher matcher = BLOCK.matcher(SECTIONS.getOrDefault("The public face", ""));
        String block = matcher.find() ? matcher.group(1) : "";
        for (String line : block.split("\n")) {
            if (line.startsWith("    ")) {
                found.add(line.trim());
            }
        }
        return found;
    }

    /** The line that opens the class in 'The public face'. */
    static String opening() {
        Matcher matcher = BLOCK.matcher(SECTIONS.getOrDefault("The public face", ""));
        return matcher.find() ? matcher.group(1).split("\n")[0].trim() : "";
    }
}
