import java.io.IOException;
import java.nio.file.Files;
import java.nio.file.Path;
import java.util.List;
import java.util.TreeSet;
import java.util.regex.Matcher;
import java.util.regex.Pattern;
import java.util.stream.Stream;

/** README.md: its examples are answered as it says, its tables fit the document and the tests. */
public final class StrongPartsReadme {
    private static final Pattern BLOCK = Pattern.compile("(?s)```java\n(.*?)```");
    private static final Pattern EXAMPLE =
            Pattern.compile("x\\.(\\w+)\\(([-\\d, ]*)\\); +// (-?\\d+|[A-Z]+)(:.*)?");
    private static final Pattern REFUSAL = Pattern.compile("\\b(NONE|BAD|FULL|THERE)\\b");

    private static int looked = 0;
    private static int wrong = 0;

    public static void main(String[] args) throws Exception {
        String text = Files.readString(Path.of("README.md"));
        examples(text);
        constants(text);
        calls(text);
        tests(text);
        System.out.println(looked + " looks at README.md, " + wrong + " not as due");
        if (wrong != 0) {
            System.exit(1);
        }
    }

    private static void due(String what, Object got, Object want) {
        looked++;
        if (!got.equals(want)) {
            wrong++;
            System.out.println(what + ": " + got + ", due is " + want);
        }
    }

    private static void examples(String text) throws Exception {
        Matcher block = BLOCK.matcher(text);
        due("there is an example", block.find(), true);
        String[] lines = block.group(1).split("\n");
        due("the first line", lines[0], "StrongParts x = new StrongParts();");
        StrongParts x = new StrongParts();
        for (int i = 1; i < lines.length; i++) {
            Matcher line = EXAMPLE.matcher(lines[i]);
            if (line.matches()) {
                due(lines[i], ask(x, line.group(1), line.group(2)), value(line.group(3)));
            } else {
                due("a line that is no example", lines[i], "");
            }
        }
    }

    private static long ask(StrongParts x, String name, String list) {
        int[] numbers = new int[3];
        String[] given = list.isEmpty() ? new String[0] : list.split(", ");
        Call call = Call.named(name);
        due("numbers of " + name, given.length, call.numbers());
        for (int i = 0; i < given.length && i < numbers.length; i++) {
            numbers[i] = Integer.parseInt(given[i]);
        }
        return call.answer(x, numbers[0], numbers[1], numbers[2]);
    }

    private static long value(String answer) throws Exception {
        boolean number = Character.isDigit(answer.charAt(answer.length() - 1));
        return number ? Long.parseLong(answer) : StrongParts.class.getField(answer).getInt(null);
    }

    private static void constants(String text) throws Exception {
        for (String name : List.of("NONE", "BAD", "FULL", "THERE")) {
            String start = "| `StrongParts." + name + "` | " + value(name) + " | ";
            due("a row that begins with " + start, rowsWith(text, start).size(), 1);
        }
    }

    /** A row for each method of the document, with the names of its numbers and its refusals. */
    private static void calls(String text) {
        for (int promise = 2; promise <= Document.promises(); promise++) {
            String face = Document.faceOf(promise);
            String call = face.replaceFirst("^\\w+ ", "").replaceAll("int ", "");
            List<String> rows = rowsWith(text, "| `" + call + "` | ");
            due("rows for " + call, rows.size(), 1);
            for (String row : rows) {
                String last = row.split(" \\| ", 3)[2];
                due("refusals of " + call, refusals(last), refusals(Document.words("Promise " + promise)));
            }
        }
    }

    private static TreeSet<String> refusals(String text) {
        TreeSet<String> found = new TreeSet<>();
        Matcher matcher = REFUSAL.matcher(text);
        while (matcher.find()) {
            found.add(matcher.group());
        }
        return found;
    }

    private static List<String> rowsWith(String text, String start) {
        return text.lines().filter(line -> line.startsWith(start)).toList();
    }

    private static void tests(String text) throws IOException {
        TreeSet<String> want = new TreeSet<>();
        try (Stream<Path> files = Files.list(Path.of("src/test/java"))) {
            files.forEach(file -> want.add(file.getFileName().toString().replace(".java", "")));
        }
        TreeSet<String> got = new TreeSet<>();
        for (String row : rowsWith(text, "| `StrongParts")) {
            String name = row.split("`")[1];
            if (!name.contains(".")) {
                got.add(name);
            }
        }
        due("the table of tests", got, want);
        due("how they are run", text.contains("```sh\n.ci/run\n```"), true);
    }
}
