import java.util.List;

/** Each sentence of the promises 1 to 28 by a test of its own, at the edges that it names or has. */
public final class StrongPartsEdges extends BySentence {
    private static final long FACTORIAL_15 = 1307674368000L;

    public static void main(String[] args) {
        aNewObject();
        clear();
        node();
        arc();
        cut();
        knots();
        knot();
        members();
        order();
        orders();
        depth();
        steps();
        way();
        reached();
        round();
        parts();
        part();
        side();
        odd();
        ring();
        adding();
        roots();
        half();
        gates();
        gate();
        needed();
        loosen();
        of();
        String[] headings = new String[28];
        for (int i = 0; i < headings.length; i++) {
            headings[i] = "Promise " + (i + 1);
        }
        end(headings);
    }

    private static void aNewObject() {
        promise(1, "No NODES.", "nothing is there, and every number is BAD", () -> {
            StrongParts x = new StrongParts();
            due("of(0)", x.of(0), 0);
            due("of(1)", x.of(1), 0);
            due("of(2)", x.of(2), 0);
            due("knot(0)", x.knot(0), BAD);
            due("arc(0, 1)", x.arc(0, 1), BAD);
            due("arc(0, 0)", x.arc(0, 0), BAD);
            due("cut(0, 1)", x.cut(0, 1), BAD);
            due("clear()", x.clear(), 0);
        });
        promise(1, "No NODES.", "whatever another object has", () -> {
            StrongParts other = Shape.ALL.made();
            StrongParts x = new StrongParts();
            due("of(0)", x.of(0), 0);
            due("node()", x.node(), 0);
            due("reached(0, 0)", x.reached(0, 0), 1);
            due("the other's of(0)", other.of(0), 15);
            unchanged("a new object beside it", Shape.ALL, other, 1);
        });
    }

    private static void clear() {
        promise(2, "All as at first:", "against a new object, at once", () -> {
            for (Shape shape : Shape.EACH) {
                StrongParts x = shape.made();
                x.clear();
                same("empty after " + shape.name(), Shape.NO_NODES.look(x),
                        Shape.NO_NODES.look(new StrongParts()));
                due("node() after " + shape.name(), x.node(), 0);
            }
        });
        promise(2, "All as at first:", "against a new object, when it is filled again",
                StrongPartsEdges::clearedAndFilled);
        promise(2, "All as at first:", "arcs do not come back with their nodes", () -> {
            StrongParts x = Shape.ALL.made();
            x.clear();
            for (int i = 0; i < 15; i++) {
                due("node()", x.node(), i);
            }
            for (int v = 0; v < 15; v++) {
                due("reached(" + v + ", 0)", x.reached(v, 0), 1 << v);
                due("reached(" + v + ", 1)", x.reached(v, 1), 1 << v);
                due("part(" + v + ")", x.part(v), v);
            }
            due("arc(14, 13), the first again", x.arc(14, 13), 1);
        });
        promise(2, "how many NODES there were.", "none, one, 15, and none the second time", () -> {
            for (Shape shape : Shape.EACH) {
                StrongParts x = shape.made();
                due("clear() of " + shape.name(), x.clear(), shape.nodes());
                due("clear() again of " + shape.name(), x.clear(), 0);
            }
            StrongParts full = graph(15);
            full.node();
            due("clear() behind a refused node()", full.clear(), 15);
        });
    }

    private static void clearedAndFilled() {
        for (Shape before : Shape.EACH) {
            for (Shape shape : Shape.EACH) {
                List<String> want = shape.look(shape.made());
                if (before.calls() + 2 + shape.calls() + want.size() > Shape.MOST_CALLS) {
                    continue;
                }
                StrongParts x = before.made();
                x.orders();
                x.clear();
                same(shape.name() + " after " + before.name(), shape.look(shape.madeOn(x)), want);
            }
        }
    }

    private static void node() {
        promise(3, "A NODE more: its number.", "0 first, 14 last; with no arcs", () -> {
            StrongParts x = new StrongParts();
            for (int i = 0; i < 15; i++) {
                due("node()", x.node(), i);
                due("of(0)", x.of(0), i + 1);
                due("of(1)", x.of(1), 0);
                due("reached(" + i + ", 0)", x.reached(i, 0), 1 << i);
                due("reached(" + i + ", 1)", x.reached(i, 1), 1 << i);
            }
        });
        promise(3, "A NODE more: its number.", "what was there stays", () -> {
            StrongParts x = Shape.FOUR.made();
            due("node()", x.node(), 4);
            due("of(1)", x.of(1), 4);
            due("reached(0, 0)", x.reached(0, 0), 15);
            due("knots()", x.knots(), 3);
        });
        promise(3, "FULL.", "with 15 there is none more, and nothing changes", () -> {
            for (Shape shape : Shape.EACH) {
                if (shape.nodes() == 15) {
                    refused(shape, "node()", StrongParts::node, FULL);
                    refused(shape, "node() twice", x -> x.node() + x.node(), 2 * FULL);
                } else {
                    due("node() of " + shape.name(), shape.made().node(), shape.nodes());
                }
            }
        });
        promise(3, "FULL.", "after clear() there is room again", () -> {
            StrongParts x = Shape.CHAIN.made();
            due("node()", x.node(), FULL);
            due("clear()", x.clear(), 15);
            for (int i = 0; i < 15; i++) {
                due("node()", x.node(), i);
            }
            due("node() 16th", x.node(), FULL);
        });
    }

    private static void arc() {
        promise(4, "An ARC more: how many there are.", "from the first to the 210th", () -> {
            StrongParts x = graph(15);
            int count = 0;
            for (int a = 14; a >= 0; a--) {
                for (int b = 0; b < 15; b++) {
                    if (a != b) {
                        count++;
                        due("arc(" + a + ", " + b + ")", x.arc(a, b), count);
                    }
                }
            }
            due("of(1)", x.of(1), 210);
        });
        promise(4, "An ARC more: how many there are.", "the other way is another one", () -> {
            StrongParts x = graph(15, 0, 14);
            due("reached(14, 0)", x.reached(14, 0), 1 << 14);
            due("arc(14, 0)", x.arc(14, 0), 2);
            due("reached(14, 0) then", x.reached(14, 0), 1 << 14 | 1);
        });
        promise(4, "BAD: also from and to are the same;", "a number that is no node", () ->
            boundsOfTwo("arc", StrongParts::arc));
        promise(4, "BAD: also from and to are the same;", "each node, and each that is none", () -> {
            for (Shape shape : Shape.EACH) {
                for (int v = -1; v <= 15; v++) {
                    int node = v;
                    refused(shape, "arc from and to " + v, x -> x.arc(node, node), BAD);
                }
            }
        });
        promise(4, "THERE: it is there.", "each arc a second time, and nothing changes", () -> {
            for (Shape shape : Shape.EACH) {
                int[] arcs = shape.arcs();
                for (int i = 0; i + 1 < arcs.length; i += 2) {
                    int from = arcs[i];
                    int to = arcs[i + 1];
                    refused(shape, "arc from " + from + " to " + to, x -> x.arc(from, to), THERE);
                }
            }
        });
        promise(4, "THERE: it is there.", "not when it has been cut", () -> {
            StrongParts x = Shape.ARC.made();
            due("arc(0, 1)", x.arc(0, 1), THERE);
            due("cut(0, 1)", x.cut(0, 1), 0);
            due("arc(0, 1) then", x.arc(0, 1), 1);
            due("arc(0, 1) again", x.arc(0, 1), THERE);
        });
    }

    private static void cut() {
        promise(5, "An ARC goes: how many are left.", "from 210 down to none", () -> {
            StrongParts x = Shape.ALL.made();
            int left = 210;
            for (int a = 0; a < 15; a++) {
                for (int b = 14; b >= 0; b--) {
                    if (a != b) {
                        left--;
                        due("cut(" + a + ", " + b + ")", x.cut(a, b), left);
                    }
                }
            }
            due("of(1)", x.of(1), 0);
            due("knots()", x.knots(), 15);
            due("parts()", x.parts(), 15);
            due("odd()", x.odd(), NONE);
            due("of(0), nodes stay", x.of(0), 15);
        });
        promise(5, "An ARC goes: how many are left.", "that one alone, not the one back", () -> {
            StrongParts x = graph(15, 0, 14, 14, 0);
            due("cut(0, 14)", x.cut(0, 14), 1);
            due("reached(0, 0)", x.reached(0, 0), 1);
            due("reached(14, 0)", x.reached(14, 0), 1 << 14 | 1);
            due("part(14)", x.part(14), 0);
            due("cut(14, 0)", x.cut(14, 0), 0);
            due("part(14) then", x.part(14), 14);
        });
        promise(5, "BAD: likewise;", "a number that is no node", () ->
            boundsOfTwo("cut", StrongParts::cut));
        promise(5, "BAD: likewise;", "from and to are the same", () -> {
            for (Shape shape : Shape.EACH) {
                for (int v = -1; v <= 15; v++) {
                    int node = v;
                    refused(shape, "cut from and to " + v, x -> x.cut(node, node), BAD);
                }
            }
        });
        promise(5, "NONE: it is not there.", "each that is not, and nothing changes", () -> {
            for (Shape shape : Shape.EACH) {
                forMissingArcs(shape, (from, to) -> refused(shape,
                        "cut from " + from + " to " + to, x -> x.cut(from, to), NONE));
            }
            refused(Shape.ARC, "cut(1, 0), against the arc", x -> x.cut(1, 0), NONE);
        });
        promise(5, "NONE: it is not there.", "no more, when it has been cut", () -> {
            StrongParts x = Shape.ARC.made();
            due("cut(0, 1)", x.cut(0, 1), 0);
            due("cut(0, 1) again", x.cut(0, 1), NONE);
            due("of(1)", x.of(1), 0);
        });
    }

    private interface Pair {
        void with(int from, int to);
    }

    private static void forMissingArcs(Shape shape, Pair pair) {
        for (int from = 0; from < shape.nodes(); from++) {
            for (int to = 0; to < shape.nodes(); to++) {
                if (from != to && !shape.hasArc(from, to)) {
                    pair.with(from, to);
                }
            }
        }
    }

    private static void knots() {
        promise(6, "How many KNOTS.", "none, one, and as many as there can be", () -> {
            for (Shape shape : Shape.EACH) {
                due("knots() of " + shape.name(), shape.made().knots(), shape.knots());
            }
            due("knots() of 15 alone", graph(15).knots(), 15);
            due("knots() of a circle of 15", circleOf15().knots(), 1);
            StrongParts x = new StrongParts();
            due("knots() of a new object", x.knots(), 0);
            x.node();
            due("knots() behind node()", x.knots(), 1);
            x.clear();
            due("knots() behind clear()", x.knots(), 0);
        });
    }

    private static void knot() {
        promise(7, "The KNOT of a NODE.", "one node, 15 alone, 15 in one", () -> {
            due("knot(0) of one", Shape.ONE.made().knot(0), 0);
            StrongParts alone = graph(15);
            StrongParts all = Shape.ALL.made();
            for (int v = 0; v < 15; v++) {
                due("knot(" + v + ") of 15 alone", alone.knot(v), v);
                due("knot(" + v + ") of one knot", all.knot(v), 0);
            }
            int[] row = {0, 0, 0, 1, 2, 3, 3, 4, 5, 5, 5, 5, 6, 7, 8};
            StrongParts mixed = Shape.MIXED.made();
            for (int v = 0; v < 15; v++) {
                due("knot(" + v + ") of several", mixed.knot(v), row[v]);
            }
        });
        promise(7, "BAD.", "a number that is no node", () ->
            boundsOfNode("knot", StrongParts::knot));
    }

    private static void members() {
        promise(8, "The NODES of a KNOT, as a SET.", "one node, 15 alone, 15 in one", () -> {
            due("members(0) of one", Shape.ONE.made().members(0), 1);
            due("members(0) of all", Shape.ALL.made().members(0), EVERY_NODE);
            StrongParts alone = graph(15);
            for (int k = 0; k < 15; k++) {
                due("members(" + k + ") of 15 alone", alone.members(k), 1 << k);
            }
            StrongParts ends = circle(15, 0, 14);
            due("members(0) of the least and the greatest", ends.members(0), 1 << 14 | 1);
            due("members(13), the last one", ends.members(13), 1 << 13);
        });
        promise(8, "BAD.", "a number that is no knot, be it a node's", () ->
            boundsOfOne("members", Shape::knots, StrongParts::members));
    }

    private static void order() {
        promise(9, "KNOT i, from 0, of THE ORDER.", "the first and the last of one and of 15", () -> {
            due("order(0) of one", Shape.ONE.made().order(0), 0);
            StrongParts chain = Shape.CHAIN.made();
            due("order(0) of a chain", chain.order(0), 14);
            due("order(14) of a chain", chain.order(14), 0);
            StrongParts alone = graph(15);
            due("order(0) of 15 alone", alone.order(0), 0);
            due("order(14) of 15 alone", alone.order(14), 14);
            int[] row = {0, 1, 2, 4, 3, 5, 6, 7, 8};
            StrongParts mixed = Shape.MIXED.made();
            for (int i = 0; i < row.length; i++) {
                due("order(" + i + ") of several", mixed.order(i), row[i]);
            }
        });
        promise(9, "BAD.", "a number from the count of knots on, or below 0", () ->
            boundsOfOne("order", Shape::knots, StrongParts::order));
    }

    private static void orders() {
        promise(10, "How many ORDERS", "one, two, and more than an int holds", () -> {
            due("one", Shape.ONE.made().orders(), 1);
            due("an arc", Shape.ARC.made().orders(), 1);
            due("two alone", graph(2).orders(), 2);
            due("15 alone", graph(15).orders(), FACTORIAL_15);
            due("14 alone", graph(14).orders(), FACTORIAL_15 / 15);
            due("13 alone", graph(13).orders(), FACTORIAL_15 / 15 / 14);
            due("15 with one arc", graph(15, 14, 0).orders(), FACTORIAL_15 / 2);
            due("a chain", Shape.CHAIN.made().orders(), 1);
            due("all", Shape.ALL.made().orders(), 1);
        });
        promise(10, "How many ORDERS", "when knots become more and fewer", () -> {
            StrongParts x = new StrongParts();
            long want = 1;
            for (int n = 1; n <= 15; n++) {
                x.node();
                want *= n;
                due("orders() of " + n, x.orders(), want);
            }
            for (int v = 0; v < 14; v++) {
                x.arc(v, v + 1);
            }
            due("orders() in a row", x.orders(), 1);
            x.arc(14, 0);
            due("orders() in a circle", x.orders(), 1);
            x.cut(14, 0);
            x.cut(6, 7);
            due("orders() of rows of 7 and 8", x.orders(), 6435);
        });
        promise(10, "(without NODES 1).", "at first, and after clear()", () -> {
            StrongParts x = new StrongParts();
            due("orders() at first", x.orders(), 1);
            for (int i = 0; i < 15; i++) {
                x.node();
            }
            due("orders() of 15", x.orders(), FACTORIAL_15);
            x.clear();
            due("orders() after clear()", x.orders(), 1);
        });
    }

    private static void depth() {
        promise(11, "Of all rows of KNOTS, each AHEAD of the next one, the one with the most: how many.",
                "none without nodes, one alone, up to 15", () -> {
            due("no nodes", new StrongParts().depth(), 0);
            due("one", Shape.ONE.made().depth(), 1);
            due("15 alone", graph(15).depth(), 1);
            due("one knot of 15", Shape.ALL.made().depth(), 1);
            due("an arc", Shape.ARC.made().depth(), 2);
            due("a chain of 15", Shape.CHAIN.made().depth(), 15);
            StrongParts x = Shape.CHAIN.made();
            x.arc(14, 0);
            due("a chain of 15 and an arc past it", x.depth(), 15);
            x.arc(0, 14);
            due("a chain of 15 that is closed", x.depth(), 1);
            due("the longer one of two", graph(6, 0, 1, 5, 4, 4, 3).depth(), 3);
            x.clear();
            due("after clear()", x.depth(), 0);
        });
    }

    private static void steps() {
        promise(12, "How many ARCS THE WAY has;", "from 0 to 14", () -> {
            StrongParts x = circleOf15();
            for (int b = 0; b < 15; b++) {
                due("steps(14, " + b + ")", x.steps(14, b), (b + 1) % 15);
                due("steps(" + b + ", " + b + ")", x.steps(b, b), 0);
            }
            due("steps(0, 0) of one", Shape.ONE.made().steps(0, 0), 0);
        });
        promise(12, "NONE: a does not REACH b.", "against an arc, and apart", () -> {
            refused(Shape.ARC, "steps(1, 0)", x -> x.steps(1, 0), NONE);
            refused(Shape.MIXED, "steps(0, 14)", x -> x.steps(0, 14), NONE);
            refused(Shape.MIXED, "steps(14, 0)", x -> x.steps(14, 0), NONE);
            for (int b = 1; b < 15; b++) {
                int to = b;
                refused(Shape.CHAIN, "steps(0, " + b + ")", x -> x.steps(0, to), NONE);
            }
        });
        promise(12, "BAD.", "a number that is no node", () ->
            boundsOfTwo("steps", StrongParts::steps));
    }

    private static void way() {
        promise(13, "NODE i, from 0, of THE WAY;", "its first, its last, all between", () -> {
            StrongParts x = circleOf15();
            for (int i = 0; i < 15; i++) {
                due("way(3, 2, " + i + ")", x.way(3, 2, i), (3 + i) % 15);
            }
            due("way(0, 0, 0) of one", Shape.ONE.made().way(0, 0, 0), 0);
            due("way(0, 1, 0) of an arc", Shape.ARC.made().way(0, 1, 0), 0);
            due("way(0, 1, 1) of an arc", Shape.ARC.made().way(0, 1, 1), 1);
        });
        promise(13, "NONE: there is none such.", "i below 0, or past the last one", () -> {
            for (int i : outside(15)) {
                refused(Shape.CHAIN, "way(14, 0, " + i + ")", x -> x.way(14, 0, i), NONE);
            }
            for (int i : outside(1)) {
                refused(Shape.ONE, "way(0, 0, " + i + ")", x -> x.way(0, 0, i), NONE);
                refused(Shape.FOUR, "way(1, 1, " + i + ")", x -> x.way(1, 1, i), NONE);
            }
            for (int i : outside(2)) {
                refused(Shape.ARC, "way(0, 1, " + i + ")", x -> x.way(0, 1, i), NONE);
            }
        });
        promise(13, "NONE: there is none such.", "a does not reach b, whatever i is", () -> {
            int[] numbers = {LEAST, -2, -1, 0, 1, 2, 14, 15, GREATEST};
            for (int i : numbers) {
                refused(Shape.ARC, "way(1, 0, " + i + ")", x -> x.way(1, 0, i), NONE);
                refused(Shape.CHAIN, "way(0, 14, " + i + ")", x -> x.way(0, 14, i), NONE);
            }
        });
        promise(13, "BAD: a, b.", "a or b is no node, whatever i is", () -> {
            int[] numbers = {LEAST, -1, 0, 1, GREATEST};
            for (int i : numbers) {
                boundsOfTwo("way to " + i, (x, a, b) -> x.way(a, b, i));
            }
        });
    }

    private static void reached() {
        promise(14, "The SET of those that a NODE REACHES (which = 0),", "from one to 15", () -> {
            due("one", Shape.ONE.made().reached(0, 0), 1);
            due("an arc, from it", Shape.ARC.made().reached(0, 0), 3);
            due("an arc, to it", Shape.ARC.made().reached(1, 0), 2);
            StrongParts x = Shape.CHAIN.made();
            due("the last of a chain", x.reached(0, 0), 1);
            due("the first of a chain", x.reached(14, 0), EVERY_NODE);
        });
        promise(14, "by which it is REACHED (1);", "from one to 15", () -> {
            due("one", Shape.ONE.made().reached(0, 1), 1);
            due("an arc, from it", Shape.ARC.made().reached(0, 1), 1);
            due("an arc, to it", Shape.ARC.made().reached(1, 1), 3);
            StrongParts x = Shape.CHAIN.made();
            due("the last of a chain", x.reached(0, 1), EVERY_NODE);
            due("the first of a chain", x.reached(14, 1), 1 << 14);
        });
        promise(14, "with itself.", "alone, too", () -> {
            StrongParts x = graph(15);
            for (int v = 0; v < 15; v++) {
                due("reached(" + v + ", 0)", x.reached(v, 0), 1 << v);
                due("reached(" + v + ", 1)", x.reached(v, 1), 1 << v);
            }
        });
        promise(14, "BAD.", "node is none", () -> {
            boundsOfNode("reached, which 0,", (x, v) -> x.reached(v, 0));
            boundsOfNode("reached, which 1,", (x, v) -> x.reached(v, 1));
        });
        promise(14, "BAD.", "which is neither 0 nor 1", () -> {
            for (Shape shape : Shape.EACH) {
                for (int which : outside(2)) {
                    refused(shape, "reached(0, " + which + ")", x -> x.reached(0, which), BAD);
                }
            }
        });
        promise(14, "BAD.", "both numbers", () -> {
            for (Shape shape : Shape.EACH) {
                refused(shape, "reached(-1, 2)", x -> x.reached(-1, 2), BAD);
                refused(shape, "reached(15, -1)", x -> x.reached(15, -1), BAD);
            }
        });
    }

    private static void round() {
        promise(15, "How many ARCS a LINE from a NODE to another one and back to it has at least;",
                "from 2 to 15", () -> {
            due("there and back", graph(2, 0, 1, 1, 0).round(0), 2);
            due("there and back, from the other", graph(2, 0, 1, 1, 0).round(1), 2);
            StrongParts x = circleOf15();
            for (int v = 0; v < 15; v++) {
                due("round(" + v + ") of a circle", x.round(v), 15);
            }
            x.arc(1, 0);
            due("round(0) with a shorter one", x.round(0), 2);
            due("round(2), that lies not on it", x.round(2), 15);
            due("round(14) of all", Shape.ALL.made().round(14), 2);
        });
        promise(15, "NONE: there is none such.", "alone, and where no line comes back", () -> {
            refused(Shape.ONE, "round(0)", x -> x.round(0), NONE);
            refused(Shape.ARC, "round(0)", x -> x.round(0), NONE);
            refused(Shape.ARC, "round(1)", x -> x.round(1), NONE);
            refused(Shape.FOUR, "round(3), behind a ring", x -> x.round(3), NONE);
            refused(Shape.MIXED, "round(7), ahead of a ring", x -> x.round(7), NONE);
            refused(Shape.MIXED, "round(14)", x -> x.round(14), NONE);
            for (int v = 0; v < 15; v++) {
                int node = v;
                refused(Shape.CHAIN, "round(" + v + ")", x -> x.round(node), NONE);
            }
        });
        promise(15, "BAD.", "a number that is no node", () ->
            boundsOfNode("round", StrongParts::round));
    }

    private static void parts() {
        promise(16, "How many PARTS.", "none, one, and as many as there can be", () -> {
            StrongParts x = new StrongParts();
            due("no nodes", x.parts(), 0);
            x.node();
            due("one", x.parts(), 1);
            x.clear();
            due("after clear()", x.parts(), 0);
            due("15 alone", graph(15).parts(), 15);
            due("15 in one", Shape.CHAIN.made().parts(), 1);
            due("all", Shape.ALL.made().parts(), 1);
            due("several", Shape.MIXED.made().parts(), 5);
        });
    }

    private static void part() {
        promise(17, "The PART of a NODE.", "one node, 15 alone, 15 in one", () -> {
            due("part(0) of one", Shape.ONE.made().part(0), 0);
            StrongParts alone = graph(15);
            StrongParts chain = Shape.CHAIN.made();
            StrongParts mixed = Shape.MIXED.made();
            int[] row = {0, 0, 0, 0, 0, 1, 1, 1, 2, 2, 2, 2, 3, 3, 4};
            for (int v = 0; v < 15; v++) {
                due("part(" + v + ") of 15 alone", alone.part(v), v);
                due("part(" + v + ") of a chain", chain.part(v), 0);
                due("part(" + v + ") of several", mixed.part(v), row[v]);
            }
        });
        promise(17, "BAD.", "a number that is no node", () ->
            boundsOfNode("part", StrongParts::part));
    }

    private static void side() {
        promise(18, "The SIDE of a NODE;", "alone, of an arc, of even rings", () -> {
            due("side(0) of one", Shape.ONE.made().side(0), 0);
            due("side(0) of an arc", Shape.ARC.made().side(0), 0);
            due("side(1) of an arc", Shape.ARC.made().side(1), 1);
            StrongParts mixed = Shape.MIXED.made();
            int[] row = {0, 1, 1, 0, 1, 0, 1, 0, 1, 0};
            for (int v = 5; v < 15; v++) {
                due("side(" + v + ") of several", mixed.side(v), row[v - 5]);
            }
        });
        promise(18, "NONE: its PART has an ODD RING.", "each of the part, none of another", () -> {
            for (int v = 0; v < 15; v++) {
                int node = v;
                refused(Shape.ALL, "side(" + v + ")", x -> x.side(node), NONE);
            }
            for (int v = 0; v < 5; v++) {
                int node = v;
                refused(Shape.MIXED, "side(" + v + ")", x -> x.side(node), NONE);
            }
            refused(Shape.FOUR, "side(3), joined to a ring", x -> x.side(3), NONE);
            due("side(14) of a part beside", Shape.MIXED.made().side(14), 0);
        });
        promise(18, "NONE: its PART has an ODD RING.", "the longest one, and when it is cut", () -> {
            StrongParts x = circleOf15();
            due("side(14) of a circle of 15", x.side(14), NONE);
            due("side(0) of a circle of 15", x.side(0), NONE);
            x.cut(14, 0);
            due("side(14) when it is cut", x.side(14), 0);
            due("side(13) when it is cut", x.side(13), 1);
            StrongParts far = Shape.CHAIN.made();
            due("side(0), all even", far.side(0), 0);
            far.arc(12, 14);
            due("side(0), far from a ring", far.side(0), NONE);
        });
        promise(18, "BAD.", "a number that is no node", () ->
            boundsOfNode("side", StrongParts::side));
    }

    private static void odd() {
        promise(19, "How many NODES THE ODD RING has;", "from 3 to 15", () -> {
            due("three", Shape.FOUR.made().odd(), 3);
            due("all", Shape.ALL.made().odd(), 3);
            StrongParts x = circleOf15();
            due("fifteen", x.odd(), 15);
            x.arc(0, 12);
            due("thirteen, with three nodes gone round", x.odd(), 13);
            x.arc(1, 12);
            due("three, beside it", x.odd(), 3);
        });
        promise(19, "NONE: there is none.", "no nodes, no ring, even rings", () -> {
            refused(Shape.NO_NODES, "odd()", StrongParts::odd, NONE);
            refused(Shape.ONE, "odd()", StrongParts::odd, NONE);
            refused(Shape.ARC, "odd()", StrongParts::odd, NONE);
            refused(Shape.CHAIN, "odd()", StrongParts::odd, NONE);
            due("arcs both ways", graph(2, 0, 1, 1, 0).odd(), NONE);
            due("a ring of four", circle(4, 0, 1, 2, 3).odd(), NONE);
            StrongParts x = Shape.FOUR.made();
            x.cut(2, 0);
            due("a ring that is cut", x.odd(), NONE);
            x.clear();
            due("after clear()", x.odd(), NONE);
        });
    }

    private static void ring() {
        promise(20, "NODE i, from 0, of THE ODD RING;", "its first, its last, all between", () -> {
            StrongParts x = circleOf15();
            for (int i = 0; i < 15; i++) {
                due("ring(" + i + ") of fifteen", x.ring(i), i);
                due("ring(" + i + ") of all", Shape.ALL.made().ring(i), i < 3 ? i : NONE);
            }
            StrongParts last = circle(15, 14, 13, 12);
            due("ring(0) of the last three", last.ring(0), 12);
            due("ring(1) of the last three", last.ring(1), 13);
            due("ring(2) of the last three", last.ring(2), 14);
        });
        promise(20, "NONE: there is none such.", "i below 0, or past the last one", () -> {
            for (int i : outside(3)) {
                refused(Shape.FOUR, "ring(" + i + ")", x -> x.ring(i), NONE);
                refused(Shape.ALL, "ring(" + i + ")", x -> x.ring(i), NONE);
            }
            StrongParts fifteen = circleOf15();
            for (int i : outside(15)) {
                due("ring(" + i + ") of fifteen", fifteen.ring(i), NONE);
            }
        });
        promise(20, "NONE: there is none such.", "without an odd ring, whatever i is", () -> {
            Shape[] without = {Shape.NO_NODES, Shape.ONE, Shape.ARC, Shape.CHAIN};
            for (Shape shape : without) {
                for (int i : outside(0)) {
                    refused(shape, "ring(" + i + ")", x -> x.ring(i), NONE);
                }
            }
        });
    }

    private static void adding() {
        String words =
                "How many ARCS more would do at least, so that each NODE REACHED each other one.";
        promise(21, words, "none for no nodes, one node, one knot", () -> {
            due("no nodes", new StrongParts().adding(), 0);
            due("one", Shape.ONE.made().adding(), 0);
            due("both ways", graph(2, 0, 1, 1, 0).adding(), 0);
            due("a circle of 15", circleOf15().adding(), 0);
            due("all", Shape.ALL.made().adding(), 0);
            StrongParts x = graph(15);
            x.clear();
            due("after clear()", x.adding(), 0);
        });
        promise(21, words, "from one to as many as there are nodes", () -> {
            due("an arc", Shape.ARC.made().adding(), 1);
            due("two alone", graph(2).adding(), 2);
            due("a chain of 15", Shape.CHAIN.made().adding(), 1);
            due("15 alone", graph(15).adding(), 15);
            due("one alone beside a circle of 14",
                    circle(15, 0, 1, 2, 3, 4, 5, 6, 7, 8, 9, 10, 11, 12, 13).adding(), 2);
            StrongParts from = graph(15);
            StrongParts to = graph(15);
            for (int v = 0; v < 14; v++) {
                from.arc(14, v);
                to.arc(v, 14);
            }
            due("from one to 14", from.adding(), 14);
            due("from 14 to one", to.adding(), 14);
        });
    }

    private static void roots() {
        promise(22, "The SET of NODES that REACH all.", "no nodes, one, none, all", () -> {
            due("no nodes", new StrongParts().roots(), 0);
            due("one", Shape.ONE.made().roots(), 1);
            due("two alone", graph(2).roots(), 0);
            due("an arc", Shape.ARC.made().roots(), 1);
            due("an arc back", graph(2, 1, 0).roots(), 2);
            due("a ring with one behind", Shape.FOUR.made().roots(), 7);
            due("a chain", Shape.CHAIN.made().roots(), 1 << 14);
            due("a circle of 15", circleOf15().roots(), EVERY_NODE);
            due("all", Shape.ALL.made().roots(), EVERY_NODE);
            StrongParts x = Shape.CHAIN.made();
            x.cut(1, 0);
            due("all but one reached", x.roots(), 0);
            x.clear();
            due("after clear()", x.roots(), 0);
        });
    }

    private static void half() {
        promise(23, "Whether of each two NODES one REACHES the other (1 or 0).",
                "without two nodes 1", () -> {
            due("no nodes", new StrongParts().half(), 1);
            due("one", Shape.ONE.made().half(), 1);
            StrongParts x = graph(15);
            due("15 alone", x.half(), 0);
            x.clear();
            due("after clear()", x.half(), 1);
        });
        promise(23, "Whether of each two NODES one REACHES the other (1 or 0).",
                "one pair too few", () -> {
            due("two alone", graph(2).half(), 0);
            due("an arc", Shape.ARC.made().half(), 1);
            due("all", Shape.ALL.made().half(), 1);
            StrongParts x = Shape.CHAIN.made();
            due("a chain", x.half(), 1);
            x.cut(1, 0);
            due("the last one apart", x.half(), 0);
            x.arc(2, 0);
            due("the last two beside one another", x.half(), 0);
            x.arc(0, 1);
            due("a chain again", x.half(), 1);
        });
    }

    private static void gates() {
        promise(24, "GATES from a to b, as a SET;", "from one node to 15", () -> {
            due("from one to itself", Shape.ONE.made().gates(0, 0), 1);
            due("an arc", Shape.ARC.made().gates(0, 1), 3);
            StrongParts x = Shape.CHAIN.made();
            due("a chain", x.gates(14, 0), EVERY_NODE);
            x.arc(14, 0);
            due("a chain and an arc past it", x.gates(14, 0), 1 << 14 | 1);
            StrongParts circle = circleOf15();
            due("a circle, nearly round", circle.gates(7, 6), EVERY_NODE);
            due("a circle, to itself", circle.gates(7, 7), 1 << 7);
        });
        promise(24, "NONE: a does not REACH b.", "against an arc, and apart", () -> {
            refused(Shape.ARC, "gates(1, 0)", x -> x.gates(1, 0), NONE);
            refused(Shape.MIXED, "gates(0, 14)", x -> x.gates(0, 14), NONE);
            refused(Shape.MIXED, "gates(14, 0)", x -> x.gates(14, 0), NONE);
            refused(Shape.CHAIN, "gates(0, 14)", x -> x.gates(0, 14), NONE);
            refused(Shape.FOUR, "gates(3, 0)", x -> x.gates(3, 0), NONE);
        });
        promise(24, "BAD.", "a number that is no node", () ->
            boundsOfTwo("gates", StrongParts::gates));
    }

    private static void gate() {
        promise(25, "Of the GATES from a to b but b the one that comes last on LINES from a to b "
                + "(on all of them it is the same);", "a itself, the one before b, one between", () -> {
            due("an arc", Shape.ARC.made().gate(0, 1), 0);
            due("all arcs", Shape.ALL.made().gate(0, 14), 0);
            StrongParts x = Shape.CHAIN.made();
            for (int b = 0; b < 14; b++) {
                due("gate(14, " + b + ") of a chain", x.gate(14, b), b + 1);
            }
            x.arc(3, 0);
            due("gate(14, 0) with a way round 2 and 1", x.gate(14, 0), 3);
            due("gate(2, 0), not on that way", x.gate(2, 0), 1);
            x.arc(14, 0);
            due("gate(14, 0) with an arc to it", x.gate(14, 0), 14);
            due("the last, not the least or greatest",
                    graph(5, 2, 4, 4, 1, 1, 3, 3, 0).gate(2, 3), 1);
        });
        promise(25, "NONE: a is b, or does not REACH it.", "a is b", () -> {
            for (Shape shape : Shape.EACH) {
                for (int v = 0; v < shape.nodes(); v++) {
                    int node = v;
                    refused(shape, "gate from and to " + v, x -> x.gate(node, node), NONE);
                }
            }
        });
        promise(25, "NONE: a is b, or does not REACH it.", "a does not reach b", () -> {
            refused(Shape.ARC, "gate(1, 0)", x -> x.gate(1, 0), NONE);
            refused(Shape.MIXED, "gate(0, 14)", x -> x.gate(0, 14), NONE);
            refused(Shape.MIXED, "gate(14, 0)", x -> x.gate(14, 0), NONE);
            refused(Shape.CHAIN, "gate(0, 14)", x -> x.gate(0, 14), NONE);
        });
        promise(25, "BAD.", "a number that is no node, also twice the same", () ->
            boundsOfTwo("gate", StrongParts::gate));
    }

    private static void needed() {
        promise(26, "Whether an ARC is NEEDED (1 or 0).", "all of them, or none", () -> {
            due("an arc alone", Shape.ARC.made().needed(0, 1), 1);
            StrongParts circle = circleOf15();
            StrongParts all = Shape.ALL.made();
            for (int v = 0; v < 15; v++) {
                due("an arc of a circle from " + v, circle.needed(v, (v + 1) % 15), 1);
                due("an arc of all from " + v, all.needed(v, (v + 1) % 15), 0);
            }
            due("asking cuts nothing", circle.of(1), 15);
            due("asking cuts nothing from all", all.of(1), 210);
        });
        promise(26, "BAD;", "a number that is no node", () ->
            boundsOfTwo("needed", StrongParts::needed));
        promise(26, "NONE: it is not there.", "each that is not, though its nodes reach", () -> {
            for (Shape shape : Shape.EACH) {
                forMissingArcs(shape, (from, to) -> refused(shape,
                        "needed from " + from + " to " + to, x -> x.needed(from, to), NONE));
            }
        });
        promise(26, "NONE: it is not there.", "from a node to itself there is none", () -> {
            for (Shape shape : Shape.EACH) {
                for (int v = 0; v < shape.nodes(); v++) {
                    int node = v;
                    refused(shape, "needed from and to " + v, x -> x.needed(node, node), NONE);
                }
            }
        });
        promise(26, "NONE: it is not there.", "when it has been cut", () -> {
            StrongParts x = Shape.ARC.made();
            due("needed(0, 1)", x.needed(0, 1), 1);
            x.cut(0, 1);
            due("needed(0, 1) then", x.needed(0, 1), NONE);
        });
    }

    private static void loosen() {
        promise(27, "The SET of the fewest NODES,", "none, one, and all but one", () -> {
            due("no nodes", new StrongParts().loosen(), 0);
            due("one", Shape.ONE.made().loosen(), 0);
            due("15 alone", graph(15).loosen(), 0);
            due("a chain of 15", Shape.CHAIN.made().loosen(), 0);
            due("a circle of 15", circleOf15().loosen(), 1);
            due("all", Shape.ALL.made().loosen(), EVERY_NODE >> 1);
            due("one greater one, not two lesser ones",
                    graph(15, 0, 14, 14, 0, 1, 14, 14, 1).loosen(), 1 << 14);
            StrongParts x = Shape.ALL.made();
            x.clear();
            due("after clear()", x.loosen(), 0);
        });
        promise(27, "of as many that which is least as a number,", "the greatest bits are saved", () -> {
            due("two", circle(15, 14, 13).loosen(), 1 << 13);
            due("7 pairs", pairs().loosen(), 0b001010101010101);
            due("two of four, the least number",
                    graph(4, 0, 1, 1, 0, 0, 2, 2, 0, 1, 3, 3, 1, 2, 3, 3, 2).loosen(), 6);
            due("1 and one more, the lesser one",
                    graph(4, 0, 3, 3, 0, 0, 1, 1, 0, 1, 2, 2, 1, 1, 3, 3, 1).loosen(), 3);
        });
        promise(27, "without which (and their ARCS) no NODE would have a LINE to another one "
                + "and back to it.", "and asking takes none away", () -> {
            StrongParts x = Shape.MIXED.made();
            due("loosen()", x.loosen(), 1 | 1 << 5 | 1 << 8);
            unchanged("loosen()", Shape.MIXED, x, 1);
            due("an arc one way alone", Shape.ARC.made().loosen(), 0);
            due("an arc both ways", graph(2, 0, 1, 1, 0).loosen(), 1);
            due("touching in a ring, no line back", graph(3, 0, 1, 1, 2, 0, 2).loosen(), 0);
            due("touching in a ring, 0 in the middle", graph(3, 2, 0, 0, 1, 2, 1).loosen(), 0);
            due("touching in a ring, 2 in the middle", graph(3, 0, 2, 2, 1, 0, 1).loosen(), 0);
        });
    }

    private static StrongParts pairs() {
        StrongParts x = graph(15);
        for (int v = 0; v < 14; v += 2) {
            x.arc(v, v + 1);
            x.arc(v + 1, v);
        }
        return x;
    }

    private static void of() {
        promise(28, "What = 0 how many NODES, 1 ARCS, 2 ARCS that are NEEDED.",
                "none, and as many as there can be", () -> {
            for (int what = 0; what < 3; what++) {
                due("of(" + what + ") of no nodes", new StrongParts().of(what), 0);
                StrongParts x = Shape.ALL.made();
                x.clear();
                due("of(" + what + ") after clear()", x.of(what), 0);
            }
            due("of(0) of 15", Shape.ALL.made().of(0), 15);
            due("of(1) of all", Shape.ALL.made().of(1), 210);
            due("of(2) of all", Shape.ALL.made().of(2), 0);
            due("of(2) of a chain", Shape.CHAIN.made().of(2), 14);
            due("of(2) of a circle", circleOf15().of(2), 15);
            due("of(2) of a ring with one behind", Shape.FOUR.made().of(2), 4);
        });
        promise(28, "What = 0 how many NODES, 1 ARCS, 2 ARCS that are NEEDED.",
                "the most that are needed: 7 to 8 nodes", () -> {
            StrongParts x = graph(15);
            for (int a = 0; a < 7; a++) {
                for (int b = 7; b < 15; b++) {
                    x.arc(a, b);
                }
            }
            due("of(1)", x.of(1), 56);
            due("of(2)", x.of(2), 56);
            x.arc(0, 1);
            due("of(2), when 0 reaches all by 1", x.of(2), 49);
        });
        promise(28, "BAD.", "what is neither 0 nor 1 nor 2", () ->
            boundsOfOne("of", shape -> 3, StrongParts::of));
    }
}
