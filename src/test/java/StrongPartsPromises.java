/** Each promise of the document by cases worked out by hand: ordinary ones, edges, wrong inputs. */
public final class StrongPartsPromises {
    private static final int NONE = -1;
    private static final int BAD = -2;
    private static final int FULL = -3;
    private static final int THERE = -4;
    private static final int LEAST = Integer.MIN_VALUE;
    private static final int GREATEST = Integer.MAX_VALUE;

    private static int wrong = 0;
    private static int asked = 0;

    private static void due(String call, long got, long want) {
        asked++;
        if (got != want) {
            wrong++;
            System.out.println(call + " answered " + got + ", due is " + want);
        }
    }

    /** Arcs are pairs: from, to, from, to, .. */
    private static StrongParts graph(int nodes, int... arcs) {
        StrongParts x = new StrongParts();
        for (int i = 0; i < nodes; i++) {
            x.node();
        }
        for (int i = 0; i + 1 < arcs.length; i += 2) {
            x.arc(arcs[i], arcs[i + 1]);
        }
        return x;
    }

    /** An arc from each node of the row to the next one, from the last to the first. */
    private static StrongParts circle(int nodes, int... row) {
        StrongParts x = graph(nodes);
        for (int i = 0; i < row.length; i++) {
            x.arc(row[i], row[(i + 1) % row.length]);
        }
        return x;
    }

    private static StrongParts complete(int nodes) {
        StrongParts x = graph(nodes);
        for (int a = 0; a < nodes; a++) {
            for (int b = 0; b < nodes; b++) {
                x.arc(a, b);
            }
        }
        return x;
    }

    public static void main(String[] args) {
        aNewObject();
        clear();
        node();
        arc();
        cut();
        refusalsChangeNothing();
        knots();
        order();
        orders();
        depth();
        steps();
        way();
        reached();
        round();
        parts();
        side();
        odd();
        ring();
        adding();
        roots();
        half();
        gates();
        gate();
        needed();
        loosen();
        of();
        noNodes();
        System.out.println(asked + " answers looked at, " + wrong + " not as due");
        if (wrong != 0) {
            System.exit(1);
        }
    }

    private static void aNewObject() {
        StrongParts x = new StrongParts();
        due("1: of(0)", x.of(0), 0);
        due("1: of(1)", x.of(1), 0);
        due("1: of(2)", x.of(2), 0);
        due("1: clear()", x.clear(), 0);
        due("1: node()", x.node(), 0);
        due("1: another's of(0)", new StrongParts().of(0), 0);
    }

    private static void clear() {
        StrongParts x = graph(3, 0, 1, 1, 2, 2, 0);
        due("2: clear()", x.clear(), 3);
        due("2: clear() again", x.clear(), 0);
        due("2: of(0)", x.of(0), 0);
        due("2: of(1)", x.of(1), 0);
        due("2: knots()", x.knots(), 0);
        due("2: node()", x.node(), 0);
        due("2: node()", x.node(), 1);
        due("2: arcs are gone", x.reached(0, 0), 1);
        due("2: arcs are gone backwards", x.reached(0, 1), 1);
        due("2: touching is gone", x.parts(), 2);
        due("2: arc(0, 1)", x.arc(0, 1), 1);
        StrongParts full = graph(15);
        due("2: clear() of 15", full.clear(), 15);
        due("2: node() after a full one", full.node(), 0);
    }

    private static void node() {
        StrongParts x = new StrongParts();
        for (int i = 0; i < 15; i++) {
            due("3: node()", x.node(), i);
        }
        due("3: node() 16th", x.node(), FULL);
        due("3: node() 17th", x.node(), FULL);
        due("3: of(0)", x.of(0), 15);
        due("3: node 14 is one", x.knot(14), 14);
        due("3: node 15 is none", x.knot(15), BAD);
    }

    private static void arc() {
        StrongParts x = graph(3);
        due("4: arc(0, 1)", x.arc(0, 1), 1);
        due("4: arc(1, 0)", x.arc(1, 0), 2);
        due("4: arc(0, 1) again", x.arc(0, 1), THERE);
        due("4: arc(2, 0)", x.arc(2, 0), 3);
        due("4: arc(1, 1)", x.arc(1, 1), BAD);
        due("4: arc(3, 3)", x.arc(3, 3), BAD);
        due("4: arc(0, 3)", x.arc(0, 3), BAD);
        due("4: arc(3, 0)", x.arc(3, 0), BAD);
        due("4: arc(-1, 0)", x.arc(-1, 0), BAD);
        due("4: arc(0, -1)", x.arc(0, -1), BAD);
        due("4: arc(LEAST, GREATEST)", x.arc(LEAST, GREATEST), BAD);
        due("4: arc(0, 32)", x.arc(0, 32), BAD);
        due("4: of(1)", x.of(1), 3);
        due("4: all arcs of 15", complete(15).of(1), 210);
    }

    private static void cut() {
        StrongParts x = graph(3, 0, 1, 1, 0, 1, 2);
        due("5: cut(0, 1)", x.cut(0, 1), 2);
        due("5: cut(0, 1) again", x.cut(0, 1), NONE);
        due("5: the other way is left", x.reached(1, 0), 7);
        due("5: they still touch", x.parts(), 1);
        due("5: cut(1, 0)", x.cut(1, 0), 1);
        due("5: they no longer touch", x.parts(), 2);
        due("5: cut(2, 1)", x.cut(2, 1), NONE);
        due("5: cut(2, 2)", x.cut(2, 2), BAD);
        due("5: cut(3, 1)", x.cut(3, 1), BAD);
        due("5: cut(1, 3)", x.cut(1, 3), BAD);
        due("5: cut(-1, 1)", x.cut(-1, 1), BAD);
        due("5: cut(1, -1)", x.cut(1, -1), BAD);
        due("5: cut(GREATEST, LEAST)", x.cut(GREATEST, LEAST), BAD);
        due("5: cut(1, 2)", x.cut(1, 2), 0);
        due("5: arc(0, 1) anew", x.arc(0, 1), 1);
    }

    private static void refusalsChangeNothing() {
        StrongParts x = graph(15, 0, 1, 1, 2);
        x.node();
        x.arc(0, 1);
        x.arc(2, 2);
        x.arc(2, 15);
        x.arc(-1, 2);
        x.cut(2, 1);
        x.cut(1, 1);
        x.cut(15, 1);
        due("refused: of(0)", x.of(0), 15);
        due("refused: of(1)", x.of(1), 2);
        due("refused: of(2)", x.of(2), 2);
        due("refused: reached(0, 0)", x.reached(0, 0), 7);
        due("refused: reached(2, 0)", x.reached(2, 0), 4);
        due("refused: reached(14, 1)", x.reached(14, 1), 1 << 14);
        due("refused: parts()", x.parts(), 13);
    }

    private static void knots() {
        StrongParts x = graph(6, 5, 1, 1, 5, 0, 4, 4, 2, 2, 0, 0, 1);
        due("6: knots()", x.knots(), 3);
        due("7: knot(0)", x.knot(0), 0);
        due("7: knot(1)", x.knot(1), 1);
        due("7: knot(2)", x.knot(2), 0);
        due("7: knot(3)", x.knot(3), 2);
        due("7: knot(4)", x.knot(4), 0);
        due("7: knot(5)", x.knot(5), 1);
        due("7: knot(-1)", x.knot(-1), BAD);
        due("7: knot(6)", x.knot(6), BAD);
        due("7: knot(LEAST)", x.knot(LEAST), BAD);
        due("8: members(0)", x.members(0), 1 | 4 | 16);
        due("8: members(1)", x.members(1), 2 | 32);
        due("8: members(2)", x.members(2), 8);
        due("8: members(3)", x.members(3), BAD);
        due("8: members(-1)", x.members(-1), BAD);
        due("8: members(GREATEST)", x.members(GREATEST), BAD);
        due("6: knots() of a ring of 15",
                circle(15, 0, 2, 4, 6, 8, 10, 12, 14, 1, 3, 5, 7, 9, 11, 13).knots(), 1);
        due("8: members(0) of 15", complete(15).members(0), 32767);
        due("6: knots() of 15 alone", graph(15).knots(), 15);
        due("6: reached but not back", graph(2, 0, 1).knots(), 2);
    }

    private static void order() {
        StrongParts x = graph(5, 3, 0, 0, 2, 4, 1);
        int[] row = {3, 0, 2, 4, 1};
        for (int i = 0; i < row.length; i++) {
            due("9: order(" + i + ")", x.order(i), row[i]);
        }
        due("9: order(5)", x.order(5), BAD);
        due("9: order(-1)", x.order(-1), BAD);
        due("9: order(LEAST)", x.order(LEAST), BAD);
        due("9: order(GREATEST)", x.order(GREATEST), BAD);
        StrongParts knotted = graph(4, 3, 1, 1, 3, 1, 0, 2, 3);
        due("9: knots are 0, {1, 3}, 2: order(0)", knotted.order(0), 2);
        due("9: order(1)", knotted.order(1), 1);
        due("9: order(2)", knotted.order(2), 0);
        due("9: order(3)", knotted.order(3), BAD);
        StrongParts down = graph(15);
        for (int i = 14; i > 0; i--) {
            down.arc(i, i - 1);
        }
        due("9: order(0) downwards", down.order(0), 14);
        due("9: order(14) downwards", down.order(14), 0);
    }

    private static void orders() {
        due("10: 15 alone", graph(15).orders(), 1307674368000L);
        due("10: one knot of 15", complete(15).orders(), 1);
        due("10: two chains of two", graph(4, 0, 1, 2, 3).orders(), 6);
        due("10: a diamond", graph(4, 0, 1, 0, 2, 1, 3, 2, 3).orders(), 2);
        due("10: knots, not nodes", graph(4, 0, 1, 1, 0, 2, 3).orders(), 3);
        due("10: 14 behind one", star().orders(), 87178291200L);
        StrongParts x = graph(15);
        x.orders();
        x.clear();
        x.node();
        x.node();
        due("10: fewer than before", x.orders(), 2);
        x.arc(1, 0);
        due("10: with an arc", x.orders(), 1);
        x.node();
        due("10: one more", x.orders(), 3);
    }

    private static StrongParts star() {
        StrongParts x = graph(15);
        for (int i = 0; i < 14; i++) {
            x.arc(14, i);
        }
        return x;
    }

    private static void depth() {
        due("11: alone", graph(3).depth(), 1);
        due("11: an arc past others counts no more", graph(4, 3, 2, 2, 0, 3, 0, 0, 1).depth(), 4);
        due("11: a knot counts once", graph(4, 0, 1, 1, 2, 2, 1, 2, 3).depth(), 3);
        due("11: one knot", complete(15).depth(), 1);
        due("11: a star", star().depth(), 2);
        StrongParts down = graph(15);
        for (int i = 14; i > 0; i--) {
            down.arc(i, i - 1);
        }
        due("11: a chain of 15", down.depth(), 15);
    }

    private static void steps() {
        StrongParts x = graph(6, 0, 1, 1, 2, 2, 3, 3, 4, 0, 3, 4, 0);
        due("12: steps(0, 3)", x.steps(0, 3), 1);
        due("12: steps(0, 4)", x.steps(0, 4), 2);
        due("12: steps(3, 2)", x.steps(3, 2), 4);
        due("12: steps(2, 2)", x.steps(2, 2), 0);
        due("12: steps(0, 5)", x.steps(0, 5), NONE);
        due("12: steps(5, 0)", x.steps(5, 0), NONE);
        due("12: steps(5, 5)", x.steps(5, 5), 0);
        due("12: steps(0, 6)", x.steps(0, 6), BAD);
        due("12: steps(6, 0)", x.steps(6, 0), BAD);
        due("12: steps(6, 6)", x.steps(6, 6), BAD);
        due("12: steps(-1, 0)", x.steps(-1, 0), BAD);
        due("12: steps(0, -1)", x.steps(0, -1), BAD);
        StrongParts ring = circle(15, 0, 1, 2, 3, 4, 5, 6, 7, 8, 9, 10, 11, 12, 13, 14);
        due("12: all around", ring.steps(1, 0), 14);
    }

    private static void way() {
        StrongParts x = graph(7, 0, 2, 0, 1, 1, 5, 2, 3, 3, 6, 5, 6, 1, 4, 4, 6, 0, 3);
        due("13: the shortest, not the first by numbers", x.way(0, 6, 1), 3);
        due("13: its end", x.way(0, 6, 2), 6);
        due("13: behind its end", x.way(0, 6, 3), NONE);
        x.cut(0, 3);
        int[] row = {0, 1, 4, 6};
        for (int i = 0; i < row.length; i++) {
            due("13: way(0, 6, " + i + ")", x.way(0, 6, i), row[i]);
        }
        due("13: way(0, 6, 4)", x.way(0, 6, 4), NONE);
        due("13: way(0, 6, -1)", x.way(0, 6, -1), NONE);
        due("13: way(0, 6, LEAST)", x.way(0, 6, LEAST), NONE);
        due("13: way(0, 6, GREATEST)", x.way(0, 6, GREATEST), NONE);
        due("13: way(6, 6, 0)", x.way(6, 6, 0), 6);
        due("13: way(6, 6, 1)", x.way(6, 6, 1), NONE);
        due("13: not reached", x.way(6, 0, 0), NONE);
        due("13: way(7, 0, 0)", x.way(7, 0, 0), BAD);
        due("13: way(0, 7, 0)", x.way(0, 7, 0), BAD);
        due("13: BAD first", x.way(-1, 0, -1), BAD);
        due("13: BAD first", x.way(0, -1, 99), BAD);
        StrongParts ring = circle(15, 0, 1, 2, 3, 4, 5, 6, 7, 8, 9, 10, 11, 12, 13, 14);
        for (int i = 0; i < 15; i++) {
            due("13: all around", ring.way(1, 0, i), (i + 1) % 15);
        }
        due("13: past all around", ring.way(1, 0, 15), NONE);
    }

    private static void reached() {
        StrongParts x = graph(5, 0, 1, 1, 2, 2, 1, 3, 2);
        due("14: reached(0, 0)", x.reached(0, 0), 7);
        due("14: reached(0, 1)", x.reached(0, 1), 1);
        due("14: reached(1, 0)", x.reached(1, 0), 6);
        due("14: reached(1, 1)", x.reached(1, 1), 15);
        due("14: reached(4, 0)", x.reached(4, 0), 16);
        due("14: reached(4, 1)", x.reached(4, 1), 16);
        due("14: reached(0, 2)", x.reached(0, 2), BAD);
        due("14: reached(0, -1)", x.reached(0, -1), BAD);
        due("14: reached(5, 0)", x.reached(5, 0), BAD);
        due("14: reached(-1, 1)", x.reached(-1, 1), BAD);
        due("14: reached(LEAST, GREATEST)", x.reached(LEAST, GREATEST), BAD);
        StrongParts chain = graph(15);
        for (int i = 14; i > 0; i--) {
            chain.arc(i, i - 1);
        }
        due("14: along 15", chain.reached(14, 0), 32767);
        due("14: back along 15", chain.reached(0, 1), 32767);
    }

    private static void round() {
        StrongParts x = graph(6, 0, 1, 1, 2, 2, 0, 2, 3, 3, 0, 3, 4, 4, 3);
        due("15: round(0)", x.round(0), 3);
        due("15: round(3)", x.round(3), 2);
        due("15: round(4)", x.round(4), 2);
        due("15: round(5)", x.round(5), NONE);
        x.cut(2, 0);
        due("15: round(1), the longer one", x.round(1), 4);
        x.cut(3, 0);
        due("15: round(0), none", x.round(0), NONE);
        due("15: round(6)", x.round(6), BAD);
        due("15: round(-1)", x.round(-1), BAD);
        StrongParts ring = circle(15, 0, 1, 2, 3, 4, 5, 6, 7, 8, 9, 10, 11, 12, 13, 14);
        due("15: all around", ring.round(7), 15);
    }

    private static void parts() {
        StrongParts x = graph(7, 5, 0, 5, 2, 6, 3, 4, 6);
        due("16: parts()", x.parts(), 3);
        int[] numbers = {0, 1, 0, 2, 2, 0, 2};
        for (int v = 0; v < numbers.length; v++) {
            due("17: part(" + v + ")", x.part(v), numbers[v]);
        }
        due("17: part(7)", x.part(7), BAD);
        due("17: part(-1)", x.part(-1), BAD);
        due("17: part(GREATEST)", x.part(GREATEST), BAD);
        due("16: 15 alone", graph(15).parts(), 15);
        due("16: one of 15", star().parts(), 1);
    }

    private static void side() {
        StrongParts x = graph(8, 5, 0, 5, 2, 6, 3, 4, 6, 3, 4, 1, 7, 7, 1);
        due("18: side(0)", x.side(0), 0);
        due("18: side(5)", x.side(5), 1);
        due("18: side(2)", x.side(2), 0);
        due("18: side(1)", x.side(1), 0);
        due("18: side(7), arcs both ways", x.side(7), 1);
        due("18: side(3), in an odd ring", x.side(3), NONE);
        due("18: side(6), in an odd ring", x.side(6), NONE);
        x.arc(0, 3);
        due("18: side(0), joined to an odd ring", x.side(0), NONE);
        due("18: side(2), joined to an odd ring", x.side(2), NONE);
        due("18: side(7), of another part", x.side(7), 1);
        due("18: side(8)", x.side(8), BAD);
        due("18: side(-1)", x.side(-1), BAD);
        StrongParts path = graph(15);
        for (int i = 14; i > 0; i--) {
            path.arc(i, i - 1);
        }
        due("18: far away, even", path.side(14), 0);
        due("18: far away, odd", path.side(13), 1);
    }

    private static void odd() {
        StrongParts x = circle(9, 0, 1, 2, 3, 4);
        due("19: five", x.odd(), 5);
        due("19: even ring", circle(4, 0, 1, 2, 3).odd(), NONE);
        due("19: arcs both ways are no ring", graph(2, 0, 1, 1, 0).odd(), NONE);
        x.arc(7, 6);
        x.arc(7, 8);
        x.arc(6, 8);
        due("19: three", x.odd(), 3);
        due("19: fifteen",
                circle(15, 0, 2, 4, 6, 8, 10, 12, 14, 1, 3, 5, 7, 9, 11, 13).odd(), 15);
    }

    private static void ring() {
        StrongParts x = circle(9, 2, 8, 3, 1, 7);
        int[] row = {1, 3, 8, 2, 7};
        for (int i = 0; i < row.length; i++) {
            due("20: ring(" + i + ")", x.ring(i), row[i]);
        }
        due("20: ring(5)", x.ring(5), NONE);
        due("20: ring(-1)", x.ring(-1), NONE);
        due("20: ring(LEAST)", x.ring(LEAST), NONE);
        due("20: ring(GREATEST)", x.ring(GREATEST), NONE);
        x.arc(6, 4);
        x.arc(4, 5);
        x.arc(6, 5);
        due("20: fewest before least: ring(0)", x.ring(0), 4);
        due("20: ring(1)", x.ring(1), 5);
        due("20: ring(2)", x.ring(2), 6);
        due("20: ring(3)", x.ring(3), NONE);
        due("20: without one", circle(4, 0, 1, 2, 3).ring(0), NONE);
        StrongParts all = complete(15);
        due("20: of all, ring(2)", all.ring(2), 2);
        int[] long15 = {0, 2, 4, 6, 8, 10, 12, 14, 1, 3, 5, 7, 9, 11, 13};
        StrongParts far = circle(15, long15);
        for (int i = 0; i < 15; i++) {
            due("20: fifteen", far.ring(i), long15[i]);
        }
        due("20: past fifteen", far.ring(15), NONE);
    }

    private static void adding() {
        due("21: one", graph(1).adding(), 0);
        due("21: two alone", graph(2).adding(), 2);
        due("21: an arc", graph(2, 0, 1).adding(), 1);
        due("21: both ways", graph(2, 0, 1, 1, 0).adding(), 0);
        due("21: two chains", graph(4, 0, 1, 2, 3).adding(), 2);
        due("21: one to three", graph(4, 0, 1, 0, 2, 0, 3).adding(), 3);
        due("21: three to one", graph(4, 1, 0, 2, 0, 3, 0).adding(), 3);
        due("21: an arc and one alone", graph(3, 0, 1).adding(), 2);
        due("21: two knots apart", graph(4, 0, 1, 1, 0, 2, 3, 3, 2).adding(), 2);
        due("21: 15 alone", graph(15).adding(), 15);
        due("21: all", complete(15).adding(), 0);
    }

    private static void roots() {
        due("22: one", graph(1).roots(), 1);
        due("22: two alone", graph(2).roots(), 0);
        due("22: a knot ahead", graph(4, 1, 3, 3, 1, 3, 0, 0, 2).roots(), 2 | 8);
        due("22: two ahead", graph(3, 0, 1, 2, 1).roots(), 0);
        due("22: all", complete(15).roots(), 32767);
    }

    private static void half() {
        due("23: one", graph(1).half(), 1);
        due("23: two alone", graph(2).half(), 0);
        due("23: a chain", graph(3, 2, 0, 0, 1).half(), 1);
        due("23: a fork", graph(3, 0, 1, 0, 2).half(), 0);
        due("23: a join", graph(3, 0, 2, 1, 2).half(), 0);
        due("23: all", complete(15).half(), 1);
    }

    private static void gates() {
        StrongParts x = graph(7, 0, 1, 0, 2, 1, 3, 2, 3, 3, 4, 4, 3, 4, 5, 5, 0);
        due("24: gates(0, 5)", x.gates(0, 5), 1 | 8 | 16 | 32);
        due("24: gates(0, 3)", x.gates(0, 3), 1 | 8);
        due("24: gates(3, 1)", x.gates(3, 1), 8 | 16 | 32 | 1 | 2);
        due("24: gates(3, 3)", x.gates(3, 3), 8);
        due("24: gates(0, 6)", x.gates(0, 6), NONE);
        due("24: gates(6, 6)", x.gates(6, 6), 64);
        due("24: gates(0, 7)", x.gates(0, 7), BAD);
        due("24: gates(7, 0)", x.gates(7, 0), BAD);
        due("24: gates(-1, 0)", x.gates(-1, 0), BAD);
        due("24: gates(0, -1)", x.gates(0, -1), BAD);
        due("24: gates(7, 7)", x.gates(7, 7), BAD);
    }

    private static void gate() {
        StrongParts x = graph(7, 0, 1, 0, 2, 1, 3, 2, 3, 3, 4, 4, 3, 4, 5, 5, 0);
        due("25: gate(0, 5)", x.gate(0, 5), 4);
        due("25: gate(0, 4)", x.gate(0, 4), 3);
        due("25: gate(0, 3)", x.gate(0, 3), 0);
        due("25: gate(5, 3)", x.gate(5, 3), 0);
        due("25: gate(3, 3)", x.gate(3, 3), NONE);
        due("25: gate(0, 6)", x.gate(0, 6), NONE);
        due("25: gate(6, 6)", x.gate(6, 6), NONE);
        due("25: gate(0, 7)", x.gate(0, 7), BAD);
        due("25: gate(7, 7)", x.gate(7, 7), BAD);
        due("25: gate(-1, 0)", x.gate(-1, 0), BAD);
        due("25: gate(0, -1)", x.gate(0, -1), BAD);
        due("25: the last, not the greatest", graph(4, 0, 3, 3, 1, 1, 2).gate(0, 2), 1);
    }

    private static void needed() {
        StrongParts x = graph(4, 0, 1, 1, 2, 0, 2, 2, 0);
        due("26: needed(0, 2)", x.needed(0, 2), 0);
        due("26: needed(0, 1)", x.needed(0, 1), 1);
        due("26: needed(1, 2)", x.needed(1, 2), 1);
        due("26: needed(2, 0)", x.needed(2, 0), 1);
        due("26: needed(1, 0), not there", x.needed(1, 0), NONE);
        due("26: needed(1, 1), not there", x.needed(1, 1), NONE);
        due("26: needed(0, 3), not there", x.needed(0, 3), NONE);
        due("26: needed(4, 0)", x.needed(4, 0), BAD);
        due("26: needed(0, 4)", x.needed(0, 4), BAD);
        due("26: needed(4, 4)", x.needed(4, 4), BAD);
        due("26: needed(-1, 0)", x.needed(-1, 0), BAD);
        due("26: needed(0, -1)", x.needed(0, -1), BAD);
        due("26: asking leaves the arc", x.of(1), 4);
    }

    private static void loosen() {
        due("27: none comes back", graph(4, 0, 1, 1, 2, 0, 3).loosen(), 0);
        due("27: the least of a ring", circle(4, 3, 1, 2).loosen(), 2);
        due("27: one for two rings", graph(5, 0, 4, 4, 0, 4, 1, 1, 4).loosen(), 16);
        due("27: two rings apart", graph(5, 4, 3, 3, 4, 2, 1, 1, 2).loosen(), 2 | 8);
        due("27: in a row",
                graph(4, 0, 3, 3, 0, 3, 1, 1, 3, 1, 2, 2, 1).loosen(), 1 | 2);
        due("27: the least number, not the least node",
                graph(4, 0, 1, 1, 0, 1, 3, 3, 1, 3, 2, 2, 3, 2, 0, 0, 2).loosen(), 2 | 4);
        due("27: all but the last", complete(15).loosen(), 16383);
    }

    private static void of() {
        StrongParts x = graph(4, 0, 1, 1, 2, 0, 2, 2, 0);
        due("28: of(0)", x.of(0), 4);
        due("28: of(1)", x.of(1), 4);
        due("28: of(2)", x.of(2), 3);
        due("28: of(3)", x.of(3), BAD);
        due("28: of(-1)", x.of(-1), BAD);
        due("28: of(LEAST)", x.of(LEAST), BAD);
        due("28: of(GREATEST)", x.of(GREATEST), BAD);
        x.cut(1, 2);
        due("28: of(2), the other one is needed now", x.of(2), 3);
        due("28: of(2) of all arcs", complete(15).of(2), 0);
    }

    private static void noNodes() {
        StrongParts x = new StrongParts();
        due("6: without nodes", x.knots(), 0);
        due("7: without nodes", x.knot(0), BAD);
        due("8: without nodes", x.members(0), BAD);
        due("9: without nodes", x.order(0), BAD);
        due("10: without nodes", x.orders(), 1);
        due("11: without nodes", x.depth(), 0);
        due("12: without nodes", x.steps(0, 0), BAD);
        due("13: without nodes", x.way(0, 0, 0), BAD);
        due("14: without nodes", x.reached(0, 0), BAD);
        due("15: without nodes", x.round(0), BAD);
        due("16: without nodes", x.parts(), 0);
        due("17: without nodes", x.part(0), BAD);
        due("18: without nodes", x.side(0), BAD);
        due("19: without nodes", x.odd(), NONE);
        due("20: without nodes", x.ring(0), NONE);
        due("21: without nodes", x.adding(), 0);
        due("22: without nodes", x.roots(), 0);
        due("23: without nodes", x.half(), 1);
        due("24: without nodes", x.gates(0, 0), BAD);
        due("25: without nodes", x.gate(0, 0), BAD);
        due("26: without nodes", x.needed(0, 0), BAD);
        due("27: without nodes", x.loosen(), 0);
        due("28: without nodes", x.of(2), 0);
        due("4: without nodes", x.arc(0, 1), BAD);
        due("5: without nodes", x.cut(0, 1), BAD);
    }
}
