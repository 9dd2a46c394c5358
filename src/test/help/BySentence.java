import java.util.Arrays;
import java.util.HashMap;
import java.util.List;
import java.util.Map;
import java.util.TreeSet;

/**
 * Tests that go by the document's own words: each names a heading, a sentence below it, and what of
 * it is looked at. In the end no sentence below the given headings may be left without a test.
 */
abstract class BySentence {
    static final int NONE = -1;
    static final int BAD = -2;
    static final int FULL = -3;
    static final int THERE = -4;
    static final int LEAST = Integer.MIN_VALUE;
    static final int GREATEST = Integer.MAX_VALUE;
    static final int EVERY_NODE = 32767;

    interface Ask {
        long on(StrongParts x);
    }

    interface AskOne {
        long on(StrongParts x, int number);
    }

    interface AskTwo {
        long on(StrongParts x, int first, int second);
    }

    interface Bound {
        int of(Shape shape);
    }

    private static final Map<String, boolean[]> QUOTED = new HashMap<>();
    private static final Map<String, List<String>> LOOKS = new HashMap<>();
    private static String label = "";
    private static int tests = 0;
    private static int asked = 0;
    private static int wrong = 0;

    static void sentence(String heading, String words, String about, Runnable test) {
        label = heading + ", \"" + words + "\" (" + about + ")";
        tests++;
        quote(heading, words);
        int before = asked;
        try {
            test.run();
        } catch (RuntimeException e) {
            fault("threw " + e);
        }
        if (asked == before) {
            fault("asks nothing");
        }
        label = "";
    }

    static void promise(int number, String words, String about, Runnable test) {
        sentence("Promise " + number, words, about, test);
    }

    private static void quote(String heading, String words) {
        String text = Document.words(heading);
        int at = text.indexOf(words);
        if (at < 0) {
            fault("the document does not say so");
            return;
        }
        boolean[] quoted = QUOTED.computeIfAbsent(heading, h -> new boolean[text.length()]);
        Arrays.fill(quoted, at, at + words.length(), true);
    }

    private static void fault(String what) {
        wrong++;
        System.out.println(label + ": " + what);
    }

    static void due(String call, long got, long want) {
        asked++;
        if (got != want) {
            fault(call + " answered " + got + ", due is " + want);
        }
    }

    static void notBad(String call, long got) {
        asked++;
        if (got == BAD) {
            fault(call + " answered BAD");
        }
    }

    static void same(String when, List<String> got, List<String> want) {
        due(when + ": how much is seen", got.size(), want.size());
        for (int i = 0; i < got.size() && i < want.size(); i++) {
            asked++;
            if (!got.get(i).equals(want.get(i))) {
                fault(when + ": " + got.get(i) + ", due is " + want.get(i));
                return;
            }
        }
    }

    /** For an object of a shape after calls that should have changed nothing. */
    static void unchanged(String when, Shape shape, StrongParts x, int callsSince) {
        List<String> want = LOOKS.computeIfAbsent(shape.name(), name -> shape.look(shape.made()));
        if (shape.calls() + callsSince + want.size() > Shape.MOST_CALLS) {
            fault(when + ": more calls than an object is used for");
        }
        same("after " + when, shape.look(x), want);
    }

    static void refused(Shape shape, String call, Ask ask, long want) {
        String when = call + " of " + shape.name();
        StrongParts x = shape.made();
        due(when, ask.on(x), want);
        unchanged(when, shape, x, 1);
    }

    /** Numbers below 0 and from bound on: near ones, far ones, and those that wrap to right ones. */
    static int[] outside(int bound) {
        TreeSet<Integer> numbers = new TreeSet<>(List.of(-1, -2, -15, -16, -31, -32, -33, bound,
                bound + 1, 14, 15, 16, 31, 32, 33, 63, 64, 127, 128, 255, 256, 32767, 32768, 65535,
                65536, GREATEST - 1, GREATEST, LEAST, LEAST + 1));
        for (int k = 0; k < bound; k++) {
            numbers.addAll(List.of(k - 32, k + 32, k + 64, k + 256, k + 65536, LEAST + k));
        }
        return numbers.stream().mapToInt(n -> n).filter(n -> n < 0 || n >= bound).toArray();
    }

    /** All numbers from 0 up to the bound are taken, all others are BAD. */
    static void boundsOfOne(String name, Bound bound, AskOne ask) {
        for (Shape shape : Shape.EACH) {
            for (int n : outside(bound.of(shape))) {
                refused(shape, name + " with " + n, x -> ask.on(x, n), BAD);
            }
            for (int n = 0; n < bound.of(shape); n++) {
                notBad(name + " with " + n + " of " + shape.name(), ask.on(shape.made(), n));
            }
        }
    }

    static void boundsOfNode(String name, AskOne ask) {
        boundsOfOne(name, Shape::nodes, ask);
    }

    static void boundsOfTwo(String name, AskTwo ask) {
        for (Shape shape : Shape.EACH) {
            int last = Math.max(0, shape.nodes() - 1);
            for (int n : outside(shape.nodes())) {
                refused(shape, name + " with " + n + ", 0", x -> ask.on(x, n, 0), BAD);
                refused(shape, name + " with 0, " + n, x -> ask.on(x, 0, n), BAD);
                refused(shape, name + " with " + last + ", " + n, x -> ask.on(x, last, n), BAD);
                refused(shape, name + " with " + n + " twice", x -> ask.on(x, n, n), BAD);
            }
            takesAllPairs(shape, name, ask);
        }
    }

    private static void takesAllPairs(Shape shape, String name, AskTwo ask) {
        for (int a = 0; a < shape.nodes(); a++) {
            for (int b = 0; b < shape.nodes(); b++) {
                if (a != b) {
                    notBad(name + " with " + a + ", " + b + " of " + shape.name(),
                            ask.on(shape.made(), a, b));
                }
            }
        }
    }

    static StrongParts graph(int nodes, int... arcs) {
        return new Shape("", nodes, 0, arcs).made();
    }

    /** Beside the nodes: an arc from each of the row to the next one, from the last to the first. */
    static StrongParts circle(int nodes, int... row) {
        StrongParts x = graph(nodes);
        for (int i = 0; i < row.length; i++) {
            x.arc(row[i], row[(i + 1) % row.length]);
        }
        return x;
    }

    static StrongParts circleOf15() {
        return circle(15, 0, 1, 2, 3, 4, 5, 6, 7, 8, 9, 10, 11, 12, 13, 14);
    }

    /** To be called last: tells how it went, and ends with exit code 1 if something is wrong. */
    static void end(String... headings) {
        for (String heading : headings) {
            lookForGaps(heading);
        }
        System.out.println(tests + " tests by sentence, " + asked + " answers looked at, "
                + wrong + " not as due");
        if (wrong != 0) {
            System.exit(1);
        }
    }

    private static void lookForGaps(String heading) {
        String text = Document.words(heading);
        boolean[] quoted = QUOTED.getOrDefault(heading, new boolean[text.length()]);
        StringBuilder left = new StringBuilder();
        for (int i = 0; i < text.length(); i++) {
            left.append(quoted[i] ? ' ' : text.charAt(i));
        }
        if (text.isEmpty() || !left.toString().isBlank()) {
            fault(heading + " has words without a test: " + left.toString().trim());
        }
    }
}
