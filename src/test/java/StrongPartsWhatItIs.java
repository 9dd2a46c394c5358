import java.util.ArrayList;
import java.util.List;
import java.util.Random;

/**
 * Each sentence of 'What it is' by tests of its own. What the class is for is looked at as a whole:
 * answers of several calls about one graph must fit together.
 */
public final class StrongPartsWhatItIs extends BySentence {
    private static final List<Shape> GRAPHS = graphs();

    interface About {
        void graph(Shape shape, Supply supply);
    }

    public static void main(String[] args) {
        reach();
        knotsInOrder();
        ways();
        joinedParts();
        gates();
        neededAndMore();
        nothingComesBack();
        calls();
        end("What it is");
    }

    private static List<Shape> graphs() {
        List<Shape> found = new ArrayList<>(List.of(Shape.EACH));
        Random random = new Random(20261116L);
        for (int i = 0; i < 60; i++) {
            int nodes = 2 + random.nextInt(14);
            found.add(Shape.byChance(random, nodes, 1 + random.nextInt(i % 2 == 0 ? 20 : 60)));
        }
        return found;
    }

    private static void whatItIs(String words, String about, About test) {
        sentence("What it is", words, about, () -> {
            for (Shape shape : GRAPHS) {
                test.graph(shape, new Supply(shape));
            }
        });
    }

    private static boolean in(long set, int v) {
        return (set >> v & 1) != 0;
    }

    private static void dueIf(String what, Shape shape, boolean got, boolean want) {
        due(what + " of " + shape.name(), got ? 1 : 0, want ? 1 : 0);
    }

    private static void reach() {
        whatItIs("Which nodes of a small graph reach which:", "all calls tell the same", (shape, s) -> {
            for (int a = 0; a < shape.nodes(); a++) {
                for (int b = 0; b < shape.nodes(); b++) {
                    String pair = a + " and " + b;
                    boolean reaches = in(s.ask("reached", a, 0), b);
                    dueIf("reached by, " + pair, shape, in(s.ask("reached", b, 1), a), reaches);
                    dueIf("steps, " + pair, shape, s.ask("steps", a, b) >= 0, reaches);
                    dueIf("way, " + pair, shape, s.ask("way", a, b, 0) >= 0, reaches);
                    dueIf("gates, " + pair, shape, s.ask("gates", a, b) >= 0, reaches);
                    dueIf("an arc, " + pair, shape, reaches || !shape.hasArc(a, b), true);
                    dueIf("what b reaches, " + pair, shape, !reaches
                            || (s.ask("reached", b, 0) & ~s.ask("reached", a, 0)) == 0, true);
                }
            }
        });
        whatItIs("Which nodes of a small graph reach which:", "those that reach all", (shape, s) -> {
            for (int v = 0; v < shape.nodes(); v++) {
                boolean all = s.ask("reached", v, 0) == (1 << shape.nodes()) - 1;
                dueIf("roots, " + v, shape, in(s.ask("roots"), v), all);
            }
        });
    }

    private static void knotsInOrder() {
        String words = "knots of nodes that reach one another, in order, and how many orders there are;";
        whatItIs(words, "each node in one knot, with those that it reaches and that reach it",
                (shape, s) -> {
            long seen = 0;
            for (int k = 0; k < s.ask("knots"); k++) {
                due("in two knots of " + shape.name(), seen & s.ask("members", k), 0);
                seen |= s.ask("members", k);
            }
            due("in some knot of " + shape.name(), seen, (1 << shape.nodes()) - 1);
            for (int v = 0; v < shape.nodes(); v++) {
                due("the members of the knot of " + v + " of " + shape.name(),
                        s.ask("members", (int) s.ask("knot", v)),
                        s.ask("reached", v, 0) & s.ask("reached", v, 1));
            }
        });
        whatItIs(words, "no arc goes back in the order", (shape, s) -> {
            int[] place = new int[15];
            long seen = 0;
            for (int i = 0; i < s.ask("knots"); i++) {
                int knot = (int) s.ask("order", i);
                place[knot] = i;
                seen |= 1 << knot;
            }
            due("all knots in the order of " + shape.name(), seen, (1 << s.ask("knots")) - 1);
            for (int i = 0; i + 1 < shape.arcs().length; i += 2) {
                int from = place[(int) s.ask("knot", shape.arcs()[i])];
                int to = place[(int) s.ask("knot", shape.arcs()[i + 1])];
                dueIf("arc " + i / 2 + " goes on in the order", shape, from <= to, true);
            }
        });
        whatItIs(words, "one order alone, just if of each two one reaches the other", (shape, s) -> {
            dueIf("orders() is 1", shape, s.ask("orders") == 1, s.ask("half") == 1);
            dueIf("depth() is all knots", shape, s.ask("depth") == s.ask("knots"), s.ask("half") == 1);
        });
    }

    private static void ways() {
        whatItIs("shortest ways and ways back;", "a way goes along arcs and has so many", (shape, s) -> {
            for (int a = 0; a < shape.nodes(); a++) {
                for (int b = 0; b < shape.nodes(); b++) {
                    int steps = (int) s.ask("steps", a, b);
                    String of = " from " + a + " to " + b + " of " + shape.name();
                    if (steps < 0) {
                        continue;
                    }
                    due("the first" + of, s.ask("way", a, b, 0), a);
                    due("the last" + of, s.ask("way", a, b, steps), b);
                    for (int i = 0; i < steps; i++) {
                        int from = (int) s.ask("way", a, b, i);
                        int to = (int) s.ask("way", a, b, i + 1);
                        dueIf("arc " + i + of, shape, shape.hasArc(from, to), true);
                    }
                }
            }
        });
        whatItIs("shortest ways and ways back;", "back by the nearest other one", (shape, s) -> {
            for (int v = 0; v < shape.nodes(); v++) {
                long least = NONE;
                for (int w = 0; w < shape.nodes(); w++) {
                    long there = s.ask("steps", v, w);
                    long back = s.ask("steps", w, v);
                    if (v != w && there >= 0 && back >= 0 && (least < 0 || there + back < least)) {
                        least = there + back;
                    }
                }
                due("round(" + v + ") of " + shape.name(), s.ask("round", v), least);
            }
        });
    }

    private static void joinedParts() {
        String words = "joined parts, two sides or an odd ring;";
        whatItIs(words, "those that touch are in one part, on two sides or on none", (shape, s) -> {
            boolean odd = false;
            for (int v = 0; v < shape.nodes(); v++) {
                odd |= s.ask("side", v) == NONE;
            }
            dueIf("an odd ring in some part", shape, s.ask("odd") != NONE, odd);
            for (int i = 0; i + 1 < shape.arcs().length; i += 2) {
                int a = shape.arcs()[i];
                int b = shape.arcs()[i + 1];
                String pair = a + " and " + b + " of " + shape.name();
                due("the part of " + pair, s.ask("part", a), s.ask("part", b));
                long side = s.ask("side", a);
                due("the side of " + pair, s.ask("side", b), side == NONE ? NONE : 1 - side);
            }
        });
        whatItIs(words, "as many parts as numbers; knots do not cross them", (shape, s) -> {
            long numbers = 0;
            for (int v = 0; v < shape.nodes(); v++) {
                numbers |= 1 << s.ask("part", v);
                for (int w = 0; w < shape.nodes(); w++) {
                    boolean reaches = s.ask("steps", v, w) >= 0;
                    boolean joined = s.ask("part", v) == s.ask("part", w);
                    dueIf("one part of " + v + " and " + w, shape, joined || !reaches, true);
                }
            }
            due("parts of " + shape.name(), numbers, (1 << s.ask("parts")) - 1);
        });
        whatItIs(words, "the ring's nodes touch, none twice", (shape, s) -> {
            int length = (int) Math.max(0, s.ask("odd"));
            long seen = 0;
            for (int i = 0; i < length; i++) {
                int v = (int) s.ask("ring", i);
                int next = (int) s.ask("ring", (i + 1) % length);
                seen |= 1 << v;
                dueIf(v + " touches " + next, shape, shape.hasArc(v, next) || shape.hasArc(next, v), true);
            }
            due("nodes of the ring of " + shape.name(), Long.bitCount(seen), length);
        });
    }

    private static void gates() {
        whatItIs("through which all ways go;", "without a gate there is no way, else there is",
                (shape, s) -> {
            for (int v = 0; v < shape.nodes(); v++) {
                Supply less = new Supply(shape.without(1 << v));
                for (int a = 0; a < shape.nodes(); a++) {
                    for (int b = 0; b < shape.nodes(); b++) {
                        long gates = s.ask("gates", a, b);
                        if (gates >= 0 && v != a && v != b) {
                            dueIf(v + " is a gate from " + a + " to " + b, shape,
                                    in(gates, v), less.ask("steps", a, b) == NONE);
                        }
                    }
                }
            }
        });
        whatItIs("through which all ways go;", "the last gate has all others before it", (shape, s) -> {
            for (int a = 0; a < shape.nodes(); a++) {
                for (int b = 0; b < shape.nodes(); b++) {
                    long gates = s.ask("gates", a, b);
                    if (gates >= 0 && a != b) {
                        int last = (int) s.ask("gate", a, b);
                        due("gates up to the last from " + a + " to " + b + " of " + shape.name(),
                                s.ask("gates", a, last), gates & ~(1L << b));
                    }
                }
            }
        });
    }

    private static void neededAndMore() {
        String words = "arcs that are needed, how many more would let all reach all;";
        whatItIs(words, "cut, a needed arc takes its end out of reach", (shape, s) -> {
            int needed = 0;
            for (int i = 0; i + 1 < shape.arcs().length; i += 2) {
                int from = shape.arcs()[i];
                int to = shape.arcs()[i + 1];
                StrongParts x = s.forCalls(4);
                int asked = x.needed(from, to);
                x.cut(from, to);
                due("needed(" + from + ", " + to + ") of " + shape.name(),
                        asked, x.steps(from, to) == NONE ? 1 : 0);
                x.arc(from, to);
                needed += asked;
            }
            due("of(2) of " + shape.name(), s.ask("of", 2), needed);
        });
        whatItIs(words, "each knot reached by no other needs one to it, each reaching no other one "
                + "from it; with the next test: fewer would not do, so many do", (shape, s) -> {
            int toThem = 0;
            int fromThem = 0;
            int knots = (int) s.ask("knots");
            for (int k = 0; k < knots; k++) {
                long members = s.ask("members", k);
                int v = Long.numberOfTrailingZeros(members);
                toThem += s.ask("reached", v, 1) == members ? 1 : 0;
                fromThem += s.ask("reached", v, 0) == members ? 1 : 0;
            }
            due("adding() of " + shape.name(), s.ask("adding"),
                    knots <= 1 ? 0 : Math.max(toThem, fromThem));
        });
        whatItIs(words, "no arc spares more than one, some arc spares one, till all reach all",
                (shape, s) -> {
            Shape now = shape;
            for (int left = (int) s.ask("adding"); left > 0; left--) {
                dueIf("more than one knot", now, now.made().knots() > 1, true);
                now = withBestArc(now, left);
            }
            dueIf("at most one knot", now, now.made().knots() <= 1, true);
        });
    }

    private static Shape withBestArc(Shape shape, int adding) {
        Supply s = new Supply(shape);
        Shape best = shape;
        for (int from = 0; from < shape.nodes(); from++) {
            for (int to = 0; to < shape.nodes(); to++) {
                StrongParts x = s.forCalls(3);
                if (x.arc(from, to) > 0) {
                    int left = x.adding();
                    x.cut(from, to);
                    dueIf("an arc spares one at most", shape, left >= adding - 1, true);
                    best = left < adding ? shape.with(from, to) : best;
                }
            }
        }
        dueIf("some arc spares one", shape, best != shape, true);
        return best;
    }

    private static void nothingComesBack() {
        whatItIs("the fewest nodes without which nothing comes back.",
                "without them nothing, with any one of them something", (shape, s) -> {
            int gone = (int) s.ask("loosen");
            dueIf("nothing comes back", shape, comesBack(shape.without(gone)), false);
            for (int v = 0; v < shape.nodes(); v++) {
                if (in(gone, v)) {
                    dueIf("with " + v + " something comes back", shape,
                            comesBack(shape.without(gone & ~(1 << v))), true);
                }
            }
        });
    }

    private static boolean comesBack(Shape shape) {
        StrongParts x = shape.made();
        boolean back = false;
        for (int v = 0; v < shape.nodes(); v++) {
            back |= x.round(v) != NONE;
        }
        return back;
    }

    private static void calls() {
        String words = "An object is used for at most 512 calls after it has been made;";
        sentence("What it is", words, "each call as the 512th is answered as it would be at once",
                StrongPartsWhatItIs::eachAsThe512th);
        sentence("What it is", words, "512 calls that take the longest", () -> {
            StrongParts alone = graph(15);
            for (int i = 15; i < Shape.MOST_CALLS; i++) {
                due("orders(), call " + (i + 1), alone.orders(), 1307674368000L);
            }
            StrongParts all = Shape.ALL.made();
            for (int i = Shape.ALL.calls(); i < Shape.MOST_CALLS; i++) {
                due("loosen(), call " + (i + 1), all.loosen(), 16383);
            }
        });
        sentence("What it is", words, "made empty and begun anew all the time", () -> {
            StrongParts x = new StrongParts();
            for (int i = 0; i < Shape.MOST_CALLS; i += 4) {
                due("node()", x.node(), 0);
                due("node()", x.node(), 1);
                due("arc(1, 0)", x.arc(1, 0), 1);
                due("clear()", x.clear(), 2);
            }
        });
        sentence("What it is", "what later calls answer is free.",
                "but the language wants each of them to end without throwing", () -> {
            StrongParts x = Shape.MIXED.made();
            int ended = 0;
            for (int i = 0; i < 5 * Shape.MOST_CALLS; i++) {
                Call.EACH[i % Call.EACH.length].answer(x, i % 17 - 1, i % 13, i % 5);
                ended++;
            }
            due("calls that ended", ended, 5 * Shape.MOST_CALLS);
        });
    }

    private static void eachAsThe512th() {
        for (Call call : Call.EACH) {
            long want = call.answer(Shape.MIXED.made(), 2, 1, 1);
            StrongParts x = Shape.MIXED.made();
            for (int i = Shape.MIXED.calls(); i < Shape.MOST_CALLS - 1; i++) {
                questionAt(i).answer(x, i % 15, i % 2, i % 3);
            }
            due(call.with(2, 1, 1), call.answer(x, 2, 1, 1), want);
        }
    }

    /** Goes through the calls that change nothing. */
    private static Call questionAt(int i) {
        Call call = Call.EACH[i % Call.EACH.length];
        return call.changes() ? Call.named("orders") : call;
    }
}
