import java.lang.management.ManagementFactory;
import java.lang.reflect.Field;
import java.lang.reflect.InvocationTargetException;
import java.lang.reflect.Method;
import java.lang.reflect.Modifier;
import java.nio.file.Files;
import java.nio.file.Path;
import java.util.ArrayList;
import java.util.Comparator;
import java.util.List;
import java.util.Random;
import java.util.TreeSet;
import java.util.regex.Matcher;
import java.util.regex.Pattern;

/** Rules of the language that can be read off or tried out, and the room. */
public final class StrongPartsRules {
    private static final Pattern FORBIDDEN = Pattern.compile(
            "\\b(throw|throws|try|catch|synchronized|assert|Exact|Random|System\\.(?!arraycopy)\\w+"
            + "|Object|Thread|Map|Set|stream|hashCode|toString|null)\\b|->|::");
    private static final Pattern METHOD = Pattern.compile("^( +)(private|public) [^=;]*\\) \\{$");

    private static int wrong = 0;

    private static void due(String what, Object got, Object want) {
        if (!got.equals(want)) {
            wrong++;
            System.out.println(what + ": " + got + ", due is " + want);
        }
    }

    public static void main(String[] args) throws Exception {
        String code = codeAlone(Files.readString(Path.of("src/main/java/StrongParts.java")));
        names();
        words(code);
        staticFields();
        neverThrows();
        sizes(code);
        room();
        System.out.println(wrong == 0 ? "all rules looked at hold" : wrong + " rules do not hold");
        if (wrong != 0) {
            System.exit(1);
        }
    }

    private static String codeAlone(String text) {
        return text.replaceAll("(?s)/\\*.*?\\*/", "").replaceAll("//[^\n]*", "");
    }

    private static List<Class<?>> classes() {
        List<Class<?>> found = new ArrayList<>(List.of(StrongParts.class));
        found.addAll(List.of(StrongParts.class.getDeclaredClasses()));
        return found;
    }

    /** Rule 1: no method inside bears the name of a public one. */
    private static void names() {
        TreeSet<String> taken = new TreeSet<>();
        for (Method method : StrongParts.class.getDeclaredMethods()) {
            if (Modifier.isPublic(method.getModifiers())) {
                taken.add(method.getName());
            }
        }
        for (Class<?> one : classes()) {
            for (Method method : one.getDeclaredMethods()) {
                boolean ofTheFace = Modifier.isPublic(method.getModifiers());
                due(method + " bears a public name",
                        !ofTheFace && taken.contains(method.getName()), false);
            }
        }
    }

    /** Rules 2, 4, 6 and 13. */
    private static void words(String code) {
        Matcher matcher = FORBIDDEN.matcher(code);
        while (matcher.find()) {
            due("a word outside the language", matcher.group(), "none");
        }
        due("imports", code.split("\\bimport\\b").length - 1, 1);
        due("the one import", code.contains("import java.util.Arrays;"), true);
    }

    /** Rule 5. */
    private static void staticFields() {
        for (Class<?> one : classes()) {
            for (Field field : one.getDeclaredFields()) {
                if (Modifier.isStatic(field.getModifiers())) {
                    due(field + " is final", Modifier.isFinal(field.getModifiers()), true);
                }
            }
        }
    }

    /** Rule 7, also behind the 512th call, whose answer is free, but not whether there is one. */
    private static void neverThrows() throws Exception {
        Random random = new Random(20261116L);
        List<Method> face = new ArrayList<>(List.of(StrongParts.class.getDeclaredMethods()));
        face.removeIf(method -> !Modifier.isPublic(method.getModifiers()));
        face.sort(Comparator.comparing(Method::getName));
        for (int run = 0; run < 40; run++) {
            StrongParts x = new StrongParts();
            for (int i = 0; i < 2000; i++) {
                Method method = face.get(random.nextInt(face.size()));
                if (!method.getName().equals("clear") || random.nextInt(20) == 0) {
                    callByChance(x, method, random, run);
                }
            }
        }
    }

    private static void callByChance(StrongParts x, Method method, Random random, int run)
            throws Exception {
        Object[] numbers = new Object[method.getParameterCount()];
        for (int i = 0; i < numbers.length; i++) {
            numbers[i] = numberByChance(random);
        }
        try {
            method.invoke(x, numbers);
        } catch (InvocationTargetException e) {
            due(method.getName() + List.of(numbers) + " in run " + run, e.getCause(), "an answer");
        }
    }

    /** Mostly a node's, else one near the bounds, else any at all. */
    private static int numberByChance(Random random) {
        switch (random.nextInt(8)) {
            case 0:
                return random.nextInt(70) - 35;
            case 1:
                return random.nextInt();
            case 2:
                return random.nextBoolean() ? Integer.MAX_VALUE : Integer.MIN_VALUE;
            default:
                return random.nextInt(15);
        }
    }

    /** Rule 11. */
    private static void sizes(String code) {
        due("at most twelve classes", classes().size() <= 12, true);
        for (Class<?> one : classes()) {
            int fields = 0;
            for (Field field : one.getDeclaredFields()) {
                fields += Modifier.isStatic(field.getModifiers()) ? 0 : 1;
            }
            due(one + " has at most twenty fields", fields <= 20, true);
            for (Method method : one.getDeclaredMethods()) {
                due(method + " has at most seven parameters", method.getParameterCount() <= 7, true);
            }
        }
        lengths(code.split("\n"));
    }

    private static void lengths(String[] lines) {
        int methods = 0;
        for (int i = 0; i < lines.length; i++) {
            Matcher matcher = METHOD.matcher(lines[i]);
            if (matcher.matches()) {
                methods++;
                int end = i;
                while (!lines[end].equals(matcher.group(1) + "}")) {
                    end++;
                }
                due(lines[i].trim() + " has at most sixty lines", end - i < 60, true);
            }
        }
        int want = 0;
        for (Class<?> one : classes()) {
            want += one.getDeclaredMethods().length;
        }
        due("methods whose lines were counted, and the constructor", methods, want + 1);
    }

    /** Rows are made once: calls that are made over and over take no more room. */
    private static void room() {
        com.sun.management.ThreadMXBean meter =
                (com.sun.management.ThreadMXBean) ManagementFactory.getThreadMXBean();
        long thread = Thread.currentThread().getId();
        meter.getThreadAllocatedBytes(thread);
        long before = meter.getThreadAllocatedBytes(thread);
        StrongParts x = new StrongParts();
        for (int i = 0; i < 15; i++) {
            x.node();
            x.orders();
        }
        long sum = 0;
        for (int i = 0; i < 470; i += 10) {
            sum += x.orders() + x.loosen() + x.of(2) + x.knots() + x.parts() + x.odd();
            sum += x.way(0, 14, 3) + x.gate(0, 14) + x.order(14) + x.arc(i % 15, (i + 4) % 15);
        }
        long taken = meter.getThreadAllocatedBytes(thread) - before;
        due("the dearest run takes a hundredth of the room (" + taken + " bytes, sum " + sum + ")",
                taken < 8L * 73_000 + 20_000, true);
    }
}
