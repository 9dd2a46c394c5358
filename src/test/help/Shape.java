import java.util.ArrayList;
import java.util.Arrays;
import java.util.List;
import java.util.Random;

/** A graph to begin with: how many nodes and knots it has; its arcs as pairs: from, to, from, to, .. */
record Shape(String name, int nodes, int knots, int... arcs) {
    static final int MOST_CALLS = 512;

    static final Shape NO_NODES = new Shape("no NODES", 0, 0);
    static final Shape ONE = new Shape("one NODE alone", 1, 1);
    static final Shape ARC = new Shape("two NODES and an ARC", 2, 2, 0, 1);
    static final Shape FOUR = new Shape("a ring of 0, 1, 2 and an ARC to 3", 4, 2,
            0, 1, 1, 2, 2, 0, 2, 3);
    static final Shape CHAIN = new Shape("14 to 13 to .. to 0", 15, 15, chain());
    static final Shape ALL = new Shape("15 NODES and all ARCS", 15, 1, complete());
    static final Shape MIXED = new Shape("15 NODES in knots, parts and rings", 15, 9,
            0, 1, 1, 2, 2, 0, 2, 3, 3, 4, 6, 5, 5, 6, 7, 5, 8, 9, 9, 10, 10, 11, 11, 8, 12, 13);
    static final Shape[] EACH = {NO_NODES, ONE, ARC, FOUR, CHAIN, ALL, MIXED};

    private static int[] chain() {
        int[] arcs = new int[28];
        for (int i = 0; i < 14; i++) {
            arcs[2 * i] = 14 - i;
            arcs[2 * i + 1] = 13 - i;
        }
        return arcs;
    }

    private static int[] complete() {
        int[] arcs = new int[2 * 15 * 14];
        int at = 0;
        for (int a = 0; a < 15; a++) {
            for (int b = 0; b < 15; b++) {
                if (a != b) {
                    arcs[at++] = a;
                    arcs[at++] = b;
                }
            }
        }
        return arcs;
    }

    /** Each arc is there by a chance of so many in a hundred; of the knots nothing is known. */
    static Shape byChance(Random random, int nodes, int percent) {
        List<Integer> arcs = new ArrayList<>();
        for (int a = 0; a < nodes; a++) {
            for (int b = 0; b < nodes; b++) {
                if (a != b && random.nextInt(100) < percent) {
                    arcs.addAll(List.of(a, b));
                }
            }
        }
        int[] row = arcs.stream().mapToInt(v -> v).toArray();
        return new Shape(nodes + " NODES by chance, ARCS " + arcs, nodes, 0, row);
    }

    /** With one arc more. */
    Shape with(int from, int to) {
        int[] more = Arrays.copyOf(arcs, arcs.length + 2);
        more[arcs.length] = from;
        more[arcs.length + 1] = to;
        return new Shape(name + " and from " + from + " to " + to, nodes, 0, more);
    }

    /** Without the arcs to and from the nodes of a set. */
    Shape without(int set) {
        List<Integer> left = new ArrayList<>();
        for (int i = 0; i + 1 < arcs.length; i += 2) {
            if ((set >> arcs[i] & 1) == 0 && (set >> arcs[i + 1] & 1) == 0) {
                left.addAll(List.of(arcs[i], arcs[i + 1]));
            }
        }
        int[] row = left.stream().mapToInt(v -> v).toArray();
        return new Shape(name + " without " + set, nodes, 0, row);
    }

    StrongParts made() {
        return madeOn(new StrongParts());
    }

    StrongParts madeOn(StrongParts x) {
        for (int i = 0; i < nodes; i++) {
            x.node();
        }
        for (int i = 0; i + 1 < arcs.length; i += 2) {
            x.arc(arcs[i], arcs[i + 1]);
        }
        return x;
    }

    /** How many calls made() takes. */
    int calls() {
        return nodes + arcs.length / 2;
    }

    boolean hasArc(int from, int to) {
        for (int i = 0; i + 1 < arcs.length; i += 2) {
            if (arcs[i] == from && arcs[i + 1] == to) {
                return true;
            }
        }
        return false;
    }

    /**
     * The state as far as it can be seen: nodes, arcs, and what follows from them. Of a small shape
     * all that can be asked, of a great one so much that the 512 calls are enough.
     */
    List<String> look(StrongParts x) {
        List<String> seen = new ArrayList<>();
        lookAtAll(x, seen);
        for (int a = 0; a < nodes; a++) {
            seen.add("reached(" + a + ", 0) = " + x.reached(a, 0));
            seen.add("reached(" + a + ", 1) = " + x.reached(a, 1));
            for (int b = 0; b < nodes; b++) {
                seen.add("needed(" + a + ", " + b + ") = " + x.needed(a, b));
            }
        }
        if (nodes <= 4) {
            lookAtNodes(x, seen);
            lookAtPairs(x, seen);
        }
        return seen;
    }

    private static void lookAtAll(StrongParts x, List<String> seen) {
        seen.add("of(0) = " + x.of(0));
        seen.add("of(1) = " + x.of(1));
        seen.add("of(2) = " + x.of(2));
        seen.add("knots() = " + x.knots());
        seen.add("orders() = " + x.orders());
        seen.add("depth() = " + x.depth());
        seen.add("parts() = " + x.parts());
        seen.add("odd() = " + x.odd());
        seen.add("ring(0) = " + x.ring(0));
        seen.add("adding() = " + x.adding());
        seen.add("roots() = " + x.roots());
        seen.add("half() = " + x.half());
        seen.add("loosen() = " + x.loosen());
    }

    private void lookAtNodes(StrongParts x, List<String> seen) {
        for (int v = 0; v <= nodes; v++) {
            seen.add("knot(" + v + ") = " + x.knot(v));
            seen.add("members(" + v + ") = " + x.members(v));
            seen.add("order(" + v + ") = " + x.order(v));
            seen.add("round(" + v + ") = " + x.round(v));
            seen.add("part(" + v + ") = " + x.part(v));
            seen.add("side(" + v + ") = " + x.side(v));
            seen.add("ring(" + v + ") = " + x.ring(v));
        }
    }

    private void lookAtPairs(StrongParts x, List<String> seen) {
        for (int a = 0; a < nodes; a++) {
            for (int b = 0; b < nodes; b++) {
                String pair = "(" + a + ", " + b;
                seen.add("steps" + pair + ") = " + x.steps(a, b));
                seen.add("gates" + pair + ") = " + x.gates(a, b));
                seen.add("gate" + pair + ") = " + x.gate(a, b));
                for (int i = 0; i < nodes; i++) {
                    seen.add("way" + pair + ", " + i + ") = " + x.way(a, b, i));
                }
            }
        }
    }
}
