import java.util.Arrays;

/** Each sentence of 'Terms' by a test of its own. */
public final class StrongPartsTerms extends BySentence {
    public static void main(String[] args) {
        nodesAndArcs();
        lines();
        knots();
        orders();
        ways();
        parts();
        oddRings();
        sides();
        gatesAndNeeded();
        refusals();
        end("Terms");
    }

    private static void terms(String words, String about, Runnable test) {
        sentence("Terms", words, about, test);
    }

    private static void nodesAndArcs() {
        terms("NODES 0, 1, .., 14 at most.", "all of them, and none more", () -> {
            StrongParts x = new StrongParts();
            for (int i = 0; i <= 14; i++) {
                due("knot(" + i + ") before it is made", x.knot(i), BAD);
                due("node()", x.node(), i);
                due("knot(" + i + ")", x.knot(i), i);
            }
            due("node() once more", x.node(), FULL);
            due("of(0)", x.of(0), 15);
            due("knot(14)", x.knot(14), 14);
            due("knot(15)", x.knot(15), BAD);
        });
        terms("ARCS go from a NODE to another one,", "none from a NODE to itself", () -> {
            for (Shape shape : Shape.EACH) {
                for (int v = 0; v < shape.nodes(); v++) {
                    int node = v;
                    refused(shape, "arc to itself of " + v, x -> x.arc(node, node), BAD);
                    refused(shape, "cut from itself of " + v, x -> x.cut(node, node), BAD);
                }
            }
        });
        terms("one at most from the one to the other.", "all 210, each of them once", () -> {
            StrongParts x = graph(15);
            int count = 0;
            for (int a = 0; a < 15; a++) {
                for (int b = 0; b < 15; b++) {
                    if (a != b) {
                        count++;
                        due("arc(" + a + ", " + b + ")", x.arc(a, b), count);
                        due("arc(" + a + ", " + b + ") again", x.arc(a, b), THERE);
                    }
                }
            }
            due("of(1)", x.of(1), 210);
        });
        terms("SETS of NODES are numbers: bit k for NODE k.", "each bit, from 0 to 14", () -> {
            StrongParts x = graph(15);
            for (int k = 0; k < 15; k++) {
                due("members(" + k + ")", x.members(k), 1 << k);
                due("reached(" + k + ", 0)", x.reached(k, 0), 1 << k);
                due("reached(" + k + ", 1)", x.reached(k, 1), 1 << k);
                due("gates(" + k + ", " + k + ")", x.gates(k, k), 1 << k);
            }
            due("loosen() of 13 and 14", circle(15, 14, 13).loosen(), 1 << 13);
            due("roots() of a chain from 14", Shape.CHAIN.made().roots(), 1 << 14);
            due("members(0) of all", Shape.ALL.made().members(0), EVERY_NODE);
        });
    }

    private static void lines() {
        terms("A LINE from a to b is a row of NODES, the first one a, the last one b, "
                + "with an ARC from each to the next", "along the arcs, not against them", () -> {
            StrongParts x = graph(15, 3, 7, 7, 14, 14, 0);
            int[] row = {3, 7, 14, 0};
            for (int i = 0; i < row.length; i++) {
                due("way(3, 0, " + i + ")", x.way(3, 0, i), row[i]);
            }
            due("way(3, 0, 4)", x.way(3, 0, 4), NONE);
            due("steps(0, 3)", x.steps(0, 3), NONE);
            due("steps(7, 3)", x.steps(7, 3), NONE);
        });
        terms("(from a to a: a alone, too).", "on a ring or not", () -> {
            for (Shape shape : Shape.EACH) {
                StrongParts x = shape.made();
                for (int v = 0; v < shape.nodes(); v++) {
                    String of = ", " + v + " of " + shape.name();
                    due("steps" + of, x.steps(v, v), 0);
                    due("way 0" + of, x.way(v, v, 0), v);
                    due("way 1" + of, x.way(v, v, 1), NONE);
                    due("gates" + of, x.gates(v, v), 1 << v);
                    due("reached" + of, x.reached(v, 0) >> v & 1, 1);
                    due("reached by" + of, x.reached(v, 1) >> v & 1, 1);
                }
            }
            due("roots() of one", Shape.ONE.made().roots(), 1);
        });
        terms("a REACHES b, if there is a LINE from a to b.", "however long it is", () -> {
            StrongParts x = Shape.CHAIN.made();
            for (int v = 0; v < 15; v++) {
                due("reached(" + v + ", 0)", x.reached(v, 0), (1 << v + 1) - 1);
                due("reached(" + v + ", 1)", x.reached(v, 1), EVERY_NODE & -(1 << v));
            }
            due("steps(14, 0)", x.steps(14, 0), 14);
            due("steps(0, 14)", x.steps(0, 14), NONE);
        });
    }

    private static void knots() {
        terms("KNOTS: two NODES are in one, if they REACH one another.",
                "one way alone does not do, a long way round does", () -> {
            due("an arc", Shape.ARC.made().knots(), 2);
            due("arcs both ways", graph(2, 0, 1, 1, 0).knots(), 1);
            due("a chain of 15", Shape.CHAIN.made().knots(), 15);
            StrongParts x = circleOf15();
            due("a circle of 15", x.knots(), 1);
            x.cut(14, 0);
            due("the circle cut open", x.knots(), 15);
            StrongParts joined = graph(5, 0, 1, 1, 0, 3, 4, 4, 3, 1, 3);
            due("two rings and an arc", joined.knots(), 3);
            joined.arc(4, 0);
            due("two rings, and arcs there and back", joined.members(0), 1 | 2 | 8 | 16);
        });
        terms("They have numbers from 0 on by their least NODES.",
                "not by the greatest, nor by how many", () -> {
            StrongParts x = circle(15, 14, 1);
            due("knots()", x.knots(), 14);
            due("knot(0)", x.knot(0), 0);
            due("knot(14)", x.knot(14), 1);
            for (int v = 1; v < 14; v++) {
                due("knot(" + v + ")", x.knot(v), v);
            }
            due("members(1)", x.members(1), 1 << 14 | 2);
        });
        terms("A KNOT is AHEAD of another one, if an ARC goes from a NODE of it to one of the other.",
                "any of its nodes; never ahead of itself", () -> {
            StrongParts x = graph(4, 0, 3, 3, 0, 1, 2, 2, 1, 2, 3);
            due("order(0)", x.order(0), 1);
            due("order(1)", x.order(1), 0);
            due("orders()", x.orders(), 1);
            due("depth()", x.depth(), 2);
            due("orders() of one knot", Shape.ALL.made().orders(), 1);
            due("depth() of one knot", Shape.ALL.made().depth(), 1);
            due("order(0) of one knot", Shape.ALL.made().order(0), 0);
        });
    }

    private static void orders() {
        terms("ORDERS are rows of all KNOTS, in which none stands behind one that it is AHEAD of;",
                "from none that is ahead of another to one order alone", () -> {
            due("15 alone", graph(15).orders(), 1307674368000L);
            due("a chain of 15", Shape.CHAIN.made().orders(), 1);
            due("an arc", Shape.ARC.made().orders(), 1);
            due("two alone", graph(2).orders(), 2);
            due("ahead of one by way of another", graph(4, 3, 2, 2, 1).orders(), 4);
        });
        terms("THE ORDER is the first of these by numbers.", "the least that may stand comes", () -> {
            StrongParts alone = graph(15);
            StrongParts chain = Shape.CHAIN.made();
            for (int i = 0; i < 15; i++) {
                due("order(" + i + ") of 15 alone", alone.order(i), i);
                due("order(" + i + ") of a chain", chain.order(i), 14 - i);
            }
            StrongParts x = graph(5, 3, 0);
            int[] row = {1, 2, 3, 0, 4};
            for (int i = 0; i < row.length; i++) {
                due("order(" + i + ") with 3 ahead of 0", x.order(i), row[i]);
            }
        });
    }

    private static void ways() {
        terms("THE WAY from a to b is the LINE with the fewest NODES;",
                "before lesser nodes count", () -> {
            StrongParts x = graph(15, 0, 1, 1, 2, 2, 3, 0, 14, 14, 3);
            due("steps(0, 3)", x.steps(0, 3), 2);
            due("way(0, 3, 1)", x.way(0, 3, 1), 14);
            x.arc(0, 3);
            due("steps(0, 3) by an arc", x.steps(0, 3), 1);
            due("way(0, 3, 1) by an arc", x.way(0, 3, 1), 3);
            due("way(0, 3, 2) by an arc", x.way(0, 3, 2), NONE);
        });
        terms("of as many the first one by its second NODE, then by its third, and so on "
                + "(lesser ones first).", "each place in its turn", () -> {
            StrongParts x = graph(9, 0, 5, 0, 2, 5, 1, 2, 7, 2, 6, 1, 8, 7, 8, 6, 8);
            int[] row = {0, 2, 6, 8};
            for (int i = 0; i < row.length; i++) {
                due("way(0, 8, " + i + ")", x.way(0, 8, i), row[i]);
            }
            StrongParts late = graph(6, 0, 4, 4, 1, 1, 3, 1, 2, 3, 5, 2, 5);
            due("way(0, 5, 3)", late.way(0, 5, 3), 2);
            due("the least that leads on", graph(4, 0, 1, 0, 2, 2, 3).way(0, 3, 1), 2);
        });
    }

    private static void parts() {
        terms("Two NODES TOUCH, if an ARC goes from one to the other, either way.",
                "this way, that way, both ways, none", () -> {
            due("from 0 to 1", graph(2, 0, 1).parts(), 1);
            due("from 1 to 0", graph(2, 1, 0).parts(), 1);
            StrongParts x = graph(2, 0, 1, 1, 0);
            due("both ways", x.parts(), 1);
            x.cut(0, 1);
            due("one of them cut", x.parts(), 1);
            x.cut(1, 0);
            due("both of them cut", x.parts(), 2);
            StrongParts other = graph(2, 0, 1, 1, 0);
            other.cut(1, 0);
            due("the other one cut", other.parts(), 1);
        });
        terms("PARTS: NODES are in one, if one comes from one to the other by NODES that TOUCH.",
                "by arcs that go to and fro, up to 15 nodes", () -> {
            StrongParts x = graph(15);
            due("15 alone", x.parts(), 15);
            for (int i = 0; i < 14; i++) {
                due("an arc more", i % 2 == 0 ? x.arc(i, i + 1) : x.arc(i + 1, i), i + 1);
                due("a part less", x.parts(), 14 - i);
            }
            due("part(14)", x.part(14), 0);
        });
        terms("They have numbers like KNOTS.", "from 0 on by their least nodes", () -> {
            StrongParts x = graph(15, 14, 1, 13, 2, 13, 3);
            int[] row = {0, 1, 2, 2, 3, 4, 5, 6, 7, 8, 9, 10, 11, 2, 1};
            for (int v = 0; v < row.length; v++) {
                due("part(" + v + ")", x.part(v), row[v]);
            }
        });
    }

    private static void oddRings() {
        terms("An ODD RING: a row of 3, 5, 7, .. NODES,", "not of 1 or 2, not of even ones", () -> {
            int[] row = {0, 1, 2, 3, 4, 5, 6, 7, 8, 9, 10, 11, 12, 13, 14};
            for (int n = 3; n <= 15; n++) {
                StrongParts x = circle(15, Arrays.copyOf(row, n));
                due("odd() of a circle of " + n, x.odd(), n % 2 == 1 ? n : NONE);
            }
            due("odd() of one", Shape.ONE.made().odd(), NONE);
            due("odd() of arcs both ways", graph(2, 0, 1, 1, 0).odd(), NONE);
        });
        terms("none twice,", "a detour to and fro makes no ring longer or earlier", () -> {
            StrongParts x = graph(5, 0, 1, 1, 2, 2, 3, 3, 4, 4, 2);
            due("odd()", x.odd(), 3);
            due("ring(0)", x.ring(0), 2);
            due("ring(1)", x.ring(1), 3);
            due("ring(2)", x.ring(2), 4);
        });
        terms("each of which TOUCHES the next, the last one the first.", "a row that is closed", () -> {
            StrongParts x = graph(3, 0, 1, 2, 1);
            due("odd() of a row that is open", x.odd(), NONE);
            due("arc(0, 2)", x.arc(0, 2), 3);
            due("odd() of arcs that go to and fro", x.odd(), 3);
        });
        terms("THE ODD RING: the one with the fewest NODES,", "before lesser nodes count", () -> {
            StrongParts x = circle(15, 0, 1, 2, 3, 4);
            due("odd()", x.odd(), 5);
            x.arc(12, 13);
            x.arc(13, 14);
            x.arc(14, 12);
            due("odd() with three at the end", x.odd(), 3);
            due("ring(0)", x.ring(0), 12);
            due("ring(2)", x.ring(2), 14);
        });
        terms("of as many the first by its first NODE, then by its second, and so on.",
                "each place in its turn", () -> {
            StrongParts two = circle(6, 3, 4, 5);
            two.arc(1, 5);
            two.arc(1, 3);
            due("ring(0), the least of all", two.ring(0), 1);
            due("ring(1), then the lesser neighbour", two.ring(1), 3);
            due("ring(2), then the last", two.ring(2), 5);
            StrongParts five = circle(7, 0, 6, 2, 4, 5);
            five.arc(2, 3);
            five.arc(3, 5);
            int[] row = {0, 5, 3, 2, 6};
            for (int i = 0; i < row.length; i++) {
                due("ring(" + i + ") of five", five.ring(i), row[i]);
            }
        });
    }

    private static void sides() {
        terms("SIDES of a PART without an ODD RING: 0 of its least NODE,", "in each part", () -> {
            StrongParts x = graph(15);
            for (int v = 0; v < 15; v++) {
                due("side(" + v + ") alone", x.side(v), 0);
            }
            StrongParts y = graph(15, 14, 13, 12, 11, 0, 14);
            due("side(0)", y.side(0), 0);
            due("side(14), no longer in 13's part alone", y.side(14), 1);
            due("side(13)", y.side(13), 0);
            due("side(11)", y.side(11), 0);
            due("side(12)", y.side(12), 1);
        });
        terms("and each two that TOUCH have other ones.", "along 15 nodes", () -> {
            StrongParts x = Shape.CHAIN.made();
            for (int v = 0; v < 15; v++) {
                due("side(" + v + ") of a chain", x.side(v), v % 2);
            }
            StrongParts even = circle(14, 0, 1, 2, 3, 4, 5, 6, 7, 8, 9, 10, 11, 12, 13);
            for (int v = 0; v < 14; v++) {
                due("side(" + v + ") of a circle of 14", even.side(v), v % 2);
            }
        });
    }

    private static void gatesAndNeeded() {
        terms("GATES from a to b: the NODES that are in all LINES from a to b",
                "not those that can be gone round", () -> {
            due("a chain of 15", Shape.CHAIN.made().gates(14, 0), EVERY_NODE);
            due("all arcs", Shape.ALL.made().gates(14, 0), 1 << 14 | 1);
            StrongParts x = graph(5, 0, 1, 1, 2, 2, 3, 0, 4, 4, 2);
            due("gates(0, 3)", x.gates(0, 3), 1 | 4 | 8);
            x.arc(4, 3);
            due("gates(0, 3) with a way round 2", x.gates(0, 3), 1 | 8);
        });
        terms("(a and b are, too).", "where nothing else is, and where a is b", () -> {
            due("an arc", Shape.ARC.made().gates(0, 1), 3);
            due("from one to itself", Shape.ONE.made().gates(0, 0), 1);
            due("from 14 to itself", Shape.ALL.made().gates(14, 14), 1 << 14);
        });
        terms("An ARC is NEEDED, if without it the NODE from which it goes would not REACH that "
                + "to which it goes.", "the longest way round is enough", () -> {
            StrongParts x = Shape.CHAIN.made();
            due("needed(14, 13)", x.needed(14, 13), 1);
            due("arc(14, 0)", x.arc(14, 0), 15);
            due("needed(14, 0), with 13 nodes round", x.needed(14, 0), 0);
            due("needed(14, 13) still", x.needed(14, 13), 1);
            x.cut(7, 6);
            due("needed(14, 0), the way round cut", x.needed(14, 0), 1);
            StrongParts ring = graph(2, 0, 1, 1, 0);
            due("needed(0, 1), and one back", ring.needed(0, 1), 1);
        });
    }

    private static void refusals() {
        terms("REFUSALS are answers: BAD (a number is none, or out of its bounds) first;",
                "where something else is named, too", () -> {
            Shape full = Shape.CHAIN;
            refused(full, "arc(15, 15)", x -> x.arc(15, 15), BAD);
            refused(full, "arc(14, 45)", x -> x.arc(14, 45), BAD);
            refused(full, "cut(15, 0), not there", x -> x.cut(15, 0), BAD);
            refused(full, "cut(0, -1), not there", x -> x.cut(0, -1), BAD);
            refused(full, "steps(0, 15), not reached", x -> x.steps(0, 15), BAD);
            refused(full, "way(15, 0, -1), none such", x -> x.way(15, 0, -1), BAD);
            refused(full, "way(0, -1, 99), none such", x -> x.way(0, -1, 99), BAD);
            refused(full, "gates(-1, 0), not reached", x -> x.gates(-1, 0), BAD);
            refused(full, "gate(15, 15), a is b", x -> x.gate(15, 15), BAD);
            refused(full, "gate(0, 15), not reached", x -> x.gate(0, 15), BAD);
            refused(full, "needed(15, 15), not there", x -> x.needed(15, 15), BAD);
            refused(full, "needed(0, -1), not there", x -> x.needed(0, -1), BAD);
            refused(full, "round(15), none such", x -> x.round(15), BAD);
            refused(Shape.ALL, "side(15), an odd ring", x -> x.side(15), BAD);
        });
        terms("then what a call names, in the order named.", "where all numbers are right", () -> {
            refused(Shape.CHAIN, "node()", x -> x.node(), FULL);
            refused(Shape.CHAIN, "arc(14, 13)", x -> x.arc(14, 13), THERE);
            refused(Shape.CHAIN, "cut(13, 14)", x -> x.cut(13, 14), NONE);
            refused(Shape.CHAIN, "steps(0, 14)", x -> x.steps(0, 14), NONE);
            refused(Shape.CHAIN, "way(0, 14, 0)", x -> x.way(0, 14, 0), NONE);
            refused(Shape.CHAIN, "way(14, 0, 15)", x -> x.way(14, 0, 15), NONE);
            refused(Shape.CHAIN, "round(14)", x -> x.round(14), NONE);
            refused(Shape.CHAIN, "odd()", x -> x.odd(), NONE);
            refused(Shape.CHAIN, "ring(0)", x -> x.ring(0), NONE);
            refused(Shape.CHAIN, "gates(0, 14)", x -> x.gates(0, 14), NONE);
            refused(Shape.CHAIN, "gate(0, 14)", x -> x.gate(0, 14), NONE);
            refused(Shape.CHAIN, "gate(14, 14)", x -> x.gate(14, 14), NONE);
            refused(Shape.CHAIN, "needed(13, 14)", x -> x.needed(13, 14), NONE);
            refused(Shape.ALL, "side(14)", x -> x.side(14), NONE);
        });
        terms("What is refused changes nothing.", "each call, whatever the numbers", () -> {
            for (Shape shape : Shape.EACH) {
                for (Call call : Call.EACH) {
                    refusedOrAsked(shape, call);
                }
            }
        });
        terms("What is refused changes nothing.", "200 refusals, one behind the other", () -> {
            StrongParts x = Shape.MIXED.made();
            for (int i = 0; i < 40; i++) {
                due("node()", x.node(), FULL);
                due("arc(0, 1)", x.arc(0, 1), THERE);
                due("cut(1, 0)", x.cut(1, 0), NONE);
                due("arc(15, 0)", x.arc(15, 0), BAD);
                due("cut(3, 3)", x.cut(3, 3), BAD);
            }
            unchanged("200 refusals", Shape.MIXED, x, 200);
        });
    }

    /** What only asks changes nothing either, be it refused or not. */
    private static void refusedOrAsked(Shape shape, Call call) {
        int n = shape.nodes();
        int[] numbers = {-1, 0, 1, n - 1, n, LEAST, GREATEST};
        int[] once = {0};
        for (int a : call.numbers() > 0 ? numbers : once) {
            for (int b : call.numbers() > 1 ? numbers : once) {
                for (int c : call.numbers() > 2 ? numbers : once) {
                    StrongParts x = shape.made();
                    boolean refused = call.answer(x, a, b, c) < 0;
                    if (refused || !call.changes()) {
                        unchanged(call.with(a, b, c) + " of " + shape.name(), shape, x, 1);
                    }
                }
            }
        }
    }
}
