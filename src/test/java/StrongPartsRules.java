import java.lang.management.ManagementFactory;
import java.lang.reflect.Field;
import java.lang.reflect.Method;
import java.lang.reflect.Modifier;
import java.nio.file.Files;
import java.nio.file.Path;
import java.util.List;
import java.util.TreeSet;
import java.util.regex.Matcher;
import java.util.regex.Pattern;

/** The face as the document lists it, rules of the language that can be read off, and the room. */
public final class StrongPartsRules {
    private static final List<String> FACE = List.of(
            "int clear()", "int node()", "int arc(int,int)", "int cut(int,int)", "int knots()",
            "int knot(int)", "int members(int)", "int order(int)", "long orders()", "int depth()",
            "int steps(int,int)", "int way(int,int,int)", "int reached(int,int)", "int round(int)",
            "int parts()", "int part(int)", "int side(int)", "int odd()", "int ring(int)",
            "int adding()", "int roots()", "int half()", "int gates(int,int)", "int gate(int,int)",
            "int needed(int,int)", "int loosen()", "int of(int)");
    private static final Pattern FORBIDDEN = Pattern.compile(
            "\\b(throw|throws|try|catch|synchronized|assert|Exact|Random|System\\.(?!arraycopy)\\w+"
            + "|Object|Thread|Map|Set|stream|hashCode|toString|null)\\b|->|::");

    private static int wrong = 0;

    private static void due(String what, Object got, Object want) {
        if (!got.equals(want)) {
            wrong++;
            System.out.println(what + ": " + got + ", due is " + want);
        }
    }

    public static void main(String[] args) throws Exception {
        face();
        constants();
        names();
        words();
        room();
        System.out.println(wrong == 0 ? "all rules looked at hold" : wrong + " rules do not hold");
        if (wrong != 0) {
            System.exit(1);
        }
    }

    private static void face() throws Exception {
        TreeSet<String> found = new TreeSet<>();
        for (Method method : StrongParts.class.getDeclaredMethods()) {
            if (!Modifier.isPrivate(method.getModifiers())) {
                due(method + " is public", Modifier.isPublic(method.getModifiers()), true);
                due(method + " is of an object", Modifier.isStatic(method.getModifiers()), false);
                found.add(shape(method));
            }
        }
        due("methods", found, new TreeSet<>(FACE));
        due("constructors", StrongParts.class.getDeclaredConstructors().length, 1);
        due("the constructor is public",
                Modifier.isPublic(StrongParts.class.getDeclaredConstructor().getModifiers()), true);
        int modifiers = StrongParts.class.getModifiers();
        due("public and final", Modifier.isPublic(modifiers) && Modifier.isFinal(modifiers), true);
    }

    private static String shape(Method method) {
        StringBuilder types = new StringBuilder();
        for (Class<?> type : method.getParameterTypes()) {
            types.append(types.length() == 0 ? "" : ",").append(type.getName());
        }
        return method.getReturnType().getName() + " " + method.getName() + "(" + types + ")";
    }

    private static void constants() {
        TreeSet<String> found = new TreeSet<>();
        for (Field field : StrongParts.class.getDeclaredFields()) {
            int modifiers = field.getModifiers();
            if (!Modifier.isPrivate(modifiers)) {
                found.add(Modifier.toString(modifiers) + " " + field.getType() + " " + field.getName());
            }
            if (Modifier.isStatic(modifiers)) {
                due(field + " is final", Modifier.isFinal(modifiers), true);
            }
        }
        String kind = "public static final int ";
        due("constants", found,
                new TreeSet<>(List.of(kind + "NONE", kind + "BAD", kind + "FULL", kind + "THERE")));
        due("their values",
                List.of(StrongParts.NONE, StrongParts.BAD, StrongParts.FULL, StrongParts.THERE),
                List.of(-1, -2, -3, -4));
    }

    /** No method inside bears the name of a public one. */
    private static void names() {
        TreeSet<String> taken = new TreeSet<>();
        for (String one : FACE) {
            taken.add(one.substring(one.indexOf(' ') + 1, one.indexOf('(')));
        }
        for (Method method : StrongParts.class.getDeclaredMethods()) {
            if (Modifier.isPrivate(method.getModifiers())) {
                due(method + " bears a public name", taken.contains(method.getName()), false);
            }
        }
        for (Class<?> inside : StrongParts.class.getDeclaredClasses()) {
            due(inside + " is static", Modifier.isStatic(inside.getModifiers()), true);
            for (Method method : inside.getDeclaredMethods()) {
                due(method + " bears a public name", taken.contains(method.getName()), false);
                due(method + " has few parameters", method.getParameterCount() <= 7, true);
            }
        }
    }

    private static void words() throws Exception {
        String text = Files.readString(Path.of("src/main/java/StrongParts.java"));
        String code = text.replaceAll("(?s)/\\*.*?\\*/", "").replaceAll("//[^\n]*", "");
        Matcher matcher = FORBIDDEN.matcher(code);
        while (matcher.find()) {
            due("a word outside the language", matcher.group(), "none");
        }
        due("imports", code.split("\\bimport\\b").length - 1, 1);
        due("the one import", code.contains("import java.util.Arrays;"), true);
    }

    /** Rows are made once: calls that are made over and over take no more room. */
    private static void room() {
        com.sun.management.ThreadMXBean meter =
                (com.sun.management.ThreadMXBean) ManagementFactory.getThreadMXBean();
        long thread = Thread.currentThread().getId();
        meter.getThreadAllocatedBytes(thread);
        long before = meter.getThreadAllocatedBytes(thread);
        StrongParts x = new StrongParts();
        for (int i = 0; i < 15; i++) {
            x.node();
            x.orders();
        }
        long sum = 0;
        for (int i = 0; i < 470; i += 10) {
            sum += x.orders() + x.loosen() + x.of(2) + x.knots() + x.parts() + x.odd();
            sum += x.way(0, 14, 3) + x.gate(0, 14) + x.order(14) + x.arc(i % 15, (i + 4) % 15);
        }
        long taken = meter.getThreadAllocatedBytes(thread) - before;
        due("the dearest run takes a hundredth of the room (" + taken + " bytes, sum " + sum + ")",
                taken < 8L * 73_000 + 20_000, true);
    }
}
