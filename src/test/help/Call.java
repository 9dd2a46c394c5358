/** A method of the face by its name: how many numbers it takes, and whether it can change anything. */
record Call(String name, int numbers, boolean changes, Body body) {
    interface Body {
        long on(StrongParts x, int a, int b, int c);
    }

    static final Call[] EACH = {
        new Call("clear", 0, true, (x, a, b, c) -> x.clear()),
        new Call("node", 0, true, (x, a, b, c) -> x.node()),
        new Call("arc", 2, true, (x, a, b, c) -> x.arc(a, b)),
        new Call("cut", 2, true, (x, a, b, c) -> x.cut(a, b)),
        new Call("knots", 0, false, (x, a, b, c) -> x.knots()),
        new Call("knot", 1, false, (x, a, b, c) -> x.knot(a)),
        new Call("members", 1, false, (x, a, b, c) -> x.members(a)),
        new Call("order", 1, false, (x, a, b, c) -> x.order(a)),
        new Call("orders", 0, false, (x, a, b, c) -> x.orders()),
        new Call("depth", 0, false, (x, a, b, c) -> x.depth()),
        new Call("steps", 2, false, (x, a, b, c) -> x.steps(a, b)),
        new Call("way", 3, false, (x, a, b, c) -> x.way(a, b, c)),
        new Call("reached", 2, false, (x, a, b, c) -> x.reached(a, b)),
        new Call("round", 1, false, (x, a, b, c) -> x.round(a)),
        new Call("parts", 0, false, (x, a, b, c) -> x.parts()),
        new Call("part", 1, false, (x, a, b, c) -> x.part(a)),
        new Call("side", 1, false, (x, a, b, c) -> x.side(a)),
        new Call("odd", 0, false, (x, a, b, c) -> x.odd()),
        new Call("ring", 1, false, (x, a, b, c) -> x.ring(a)),
        new Call("adding", 0, false, (x, a, b, c) -> x.adding()),
        new Call("roots", 0, false, (x, a, b, c) -> x.roots()),
        new Call("half", 0, false, (x, a, b, c) -> x.half()),
        new Call("gates", 2, false, (x, a, b, c) -> x.gates(a, b)),
        new Call("gate", 2, false, (x, a, b, c) -> x.gate(a, b)),
        new Call("needed", 2, false, (x, a, b, c) -> x.needed(a, b)),
        new Call("loosen", 0, false, (x, a, b, c) -> x.loosen()),
        new Call("of", 1, false, (x, a, b, c) -> x.of(a)),
    };

    static Call named(String name) {
        for (Call call : EACH) {
            if (call.name.equals(name)) {
                return call;
            }
        }
        throw new IllegalArgumentException("there is no call " + name);
    }

    long answer(StrongParts x, int a, int b, int c) {
        return body.on(x, a, b, c);
    }

    /** As it is written: of the numbers only those that the call takes. */
    String with(int a, int b, int c) {
        int[] all = {a, b, c};
        StringBuilder text = new StringBuilder(name).append('(');
        for (int i = 0; i < numbers; i++) {
            text.append(i == 0 ? "" : ", ").append(all[i]);
        }
        return text.append(')').toString();
    }
}
