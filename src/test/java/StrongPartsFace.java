import java.lang.reflect.Constructor;
import java.lang.reflect.Field;
import java.lang.reflect.Method;
import java.lang.reflect.Modifier;
import java.nio.file.Files;
import java.nio.file.Path;
import java.util.List;
import java.util.TreeSet;
import java.util.regex.Matcher;
import java.util.regex.Pattern;

/** Every member of 'The public face' as it is written in the document, and no other. */
public final class StrongPartsFace {
    private static final Pattern CONSTANT = Pattern.compile("(\\w+) = (-?\\d+)");
    private static final String CONSTANTS = "public static final int ";

    private static int looked = 0;
    private static int wrong = 0;

    public static void main(String[] args) throws Exception {
        theDocumentsOwnFaces();
        everyMemberAndNoOther();
        constantsHaveTheirValues();
        membersAsTheyAreWritten();
        theClassItself();
        theClassesInside();
        System.out.println(looked + " looks at the face, " + wrong + " not as due");
        if (wrong != 0) {
            System.exit(1);
        }
    }

    private static void due(String what, Object got, Object want) {
        looked++;
        if (!got.equals(want)) {
            wrong++;
            System.out.println(what + ": " + got + ", due is " + want);
        }
    }

    /** What stands before each promise is a member of the face; so no promise is left out here. */
    private static void theDocumentsOwnFaces() {
        List<String> face = Document.face();
        due("members below the constants", face.size() - 1, Document.promises());
        for (int i = 1; i <= Document.promises() && i < face.size(); i++) {
            due("the face of promise " + i, "public " + Document.faceOf(i) + ";", face.get(i));
        }
    }

    private static void everyMemberAndNoOther() {
        TreeSet<String> want = new TreeSet<>();
        for (String line : Document.face()) {
            if (line.startsWith(CONSTANTS)) {
                Matcher matcher = CONSTANT.matcher(line);
                while (matcher.find()) {
                    want.add(CONSTANTS + matcher.group(1));
                }
            } else {
                want.add(line.replaceAll(" \\w+([,)])", "$1").replaceAll(", ", ",").replace(";", ""));
            }
        }
        due("members that are not private", membersThatShow(), want);
    }

    private static TreeSet<String> membersThatShow() {
        TreeSet<String> found = new TreeSet<>();
        for (Field field : StrongParts.class.getDeclaredFields()) {
            if (!Modifier.isPrivate(field.getModifiers())) {
                found.add(field.toString().replace("StrongParts.", ""));
            }
        }
        for (Constructor<?> constructor : StrongParts.class.getDeclaredConstructors()) {
            if (!Modifier.isPrivate(constructor.getModifiers())) {
                found.add(constructor.toString());
            }
        }
        for (Method method : StrongParts.class.getDeclaredMethods()) {
            if (!Modifier.isPrivate(method.getModifiers())) {
                found.add(method.toString().replace("StrongParts.", ""));
            }
        }
        return found;
    }

    private static void constantsHaveTheirValues() throws Exception {
        for (String line : Document.face()) {
            Matcher matcher = CONSTANT.matcher(line);
            while (matcher.find()) {
                int got = StrongParts.class.getField(matcher.group(1)).getInt(null);
                due(matcher.group(1), got, Integer.parseInt(matcher.group(2)));
            }
        }
    }

    /** The names of the parameters, too, which the compiled class does not keep. */
    private static void membersAsTheyAreWritten() throws Exception {
        String code = Files.readString(Path.of("src/main/java/StrongParts.java"));
        due("once in the file: " + Document.opening(), count(code, Document.opening()), 1);
        for (String line : Document.face()) {
            String written = line.startsWith(CONSTANTS) ? line : line.replace(";", " {");
            due("once in the file: " + written, count(code, "    " + written + "\n"), 1);
        }
    }

    private static int count(String text, String piece) {
        return text.split(Pattern.quote(piece), -1).length - 1;
    }

    private static void theClassItself() {
        Class<?> face = StrongParts.class;
        due("its package", face.getPackageName(), "");
        due("its modifiers", Modifier.toString(face.getModifiers()), "public final");
        due("what it extends", face.getSuperclass(), Object.class);
        due("what it implements", face.getInterfaces().length, 0);
        due("its type parameters", face.getTypeParameters().length, 0);
    }

    private static void theClassesInside() {
        for (Class<?> inside : StrongParts.class.getDeclaredClasses()) {
            int modifiers = inside.getModifiers();
            due(inside + " is static", Modifier.isStatic(modifiers), true);
            due(inside + " is seen from outside",
                    Modifier.isPublic(modifiers) || Modifier.isProtected(modifiers), false);
        }
    }
}
