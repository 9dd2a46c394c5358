import java.util.Arrays;

/**
 * Which nodes of a small graph reach which, and what follows from that.
 *
 * <p>Only the nodes and arcs are kept. Every answer is worked out anew from them, in rows that are
 * made once, so that no answer can lag behind a change and no run of calls fills the room.
 */
public final class StrongParts {
    public static final int NONE = -1, BAD = -2, FULL = -3, THERE = -4;

    private static final int MOST = 15;

    private final Graph graph;
    private final Groups groups;
    private final KnotOrder knotOrder;
    private final Layers layers;

    public StrongParts() {
        graph = new Graph();
        groups = new Groups();
        knotOrder = new KnotOrder();
        layers = new Layers();
    }

    public int clear() {
        int nodes = graph.nodes;
        graph.empty();
        return nodes;
    }

    public int node() {
        if (graph.nodes >= MOST) {
            return FULL;
        }
        graph.nodes++;
        return graph.nodes - 1;
    }

    public int arc(int from, int to) {
        if (!arePair(from, to) || from == to) {
            return BAD;
        }
        if (graph.isArc(from, to)) {
            return THERE;
        }
        graph.join(from, to);
        return graph.arcs;
    }

    public int cut(int from, int to) {
        if (!arePair(from, to) || from == to) {
            return BAD;
        }
        if (!graph.isArc(from, to)) {
            return NONE;
        }
        graph.sever(from, to);
        return graph.arcs;
    }

    public int knots() {
        groups.takeKnots(graph);
        return groups.size;
    }

    public int knot(int node) {
        if (!graph.isNode(node)) {
            return BAD;
        }
        groups.takeKnots(graph);
        return groups.numberOf(node);
    }

    public int members(int knot) {
        groups.takeKnots(graph);
        if (knot < 0 || knot >= groups.size) {
            return BAD;
        }
        return at(groups.sets, knot);
    }

    public int order(int i) {
        orderKnots();
        if (i < 0 || i >= knotOrder.size) {
            return BAD;
        }
        return knotOrder.placeOf(i);
    }

    public long orders() {
        orderKnots();
        return knotOrder.countAll();
    }

    public int depth() {
        orderKnots();
        return knotOrder.longestChain();
    }

    public int steps(int a, int b) {
        if (!arePair(a, b)) {
            return BAD;
        }
        layers.take(graph.into, b);
        return layers.firstWith(bit(a));
    }

    public int way(int a, int b, int i) {
        if (!arePair(a, b)) {
            return BAD;
        }
        layers.take(graph.into, b);
        int length = layers.firstWith(bit(a));
        if (length == NONE || i < 0 || i > length) {
            return NONE;
        }
        return layers.follow(graph.out, a, length, i);
    }

    public int reached(int node, int which) {
        if (!graph.isNode(node) || which < 0 || which > 1) {
            return BAD;
        }
        return which == 0 ? graph.reachedFrom(node) : graph.reaching(node);
    }

    public int round(int node) {
        if (!graph.isNode(node)) {
            return BAD;
        }
        layers.take(graph.into, node);
        int back = layers.firstWith(at(graph.out, node));
        return back == NONE ? NONE : back + 1;
    }

    public int parts() {
        groups.takeParts(graph);
        return groups.size;
    }

    public int part(int node) {
        if (!graph.isNode(node)) {
            return BAD;
        }
        groups.takeParts(graph);
        return groups.numberOf(node);
    }

    public int side(int node) {
        if (!graph.isNode(node)) {
            return BAD;
        }
        return graph.sideOf(node);
    }

    public int odd() {
        return shortestOdd();
    }

    public int ring(int i) {
        int length = shortestOdd();
        if (i < 0 || i >= length) {
            return NONE;
        }
        for (int v = 0; v < graph.nodes; v++) {
            layers.take(graph.near, v);
            if (layers.firstOddWith(bit(v)) == length) {
                return layers.follow(graph.near, v, length, i);
            }
        }
        return NONE;
    }

    public int adding() {
        orderKnots();
        return knotOrder.missingArcs();
    }

    public int roots() {
        int found = 0;
        for (int v = 0; v < graph.nodes; v++) {
            if (graph.reachedFrom(v) == graph.all()) {
                found |= bit(v);
            }
        }
        return found;
    }

    public int half() {
        for (int v = 0; v < graph.nodes; v++) {
            if ((graph.reachedFrom(v) | graph.reaching(v)) != graph.all()) {
                return 0;
            }
        }
        return 1;
    }

    public int gates(int a, int b) {
        if (!arePair(a, b)) {
            return BAD;
        }
        return graph.gatesBetween(a, b);
    }

    public int gate(int a, int b) {
        if (!arePair(a, b)) {
            return BAD;
        }
        int through = graph.gatesBetween(a, b);
        if (a == b || through == NONE) {
            return NONE;
        }
        return lastOnWay(a, b, through);
    }

    public int needed(int from, int to) {
        if (!arePair(from, to)) {
            return BAD;
        }
        if (!graph.isArc(from, to)) {
            return NONE;
        }
        return graph.isNeeded(from, to) ? 1 : 0;
    }

    public int loosen() {
        return Graph.fewest(graph, graph.nodes - 1, 0, 0, graph.all());
    }

    public int of(int what) {
        switch (what) {
            case 0:
                return graph.nodes;
            case 1:
                return graph.arcs;
            case 2:
                return graph.countNeeded();
            default:
                return BAD;
        }
    }

    private boolean arePair(int a, int b) {
        return graph.isNode(a) && graph.isNode(b);
    }

    private void orderKnots() {
        groups.takeKnots(graph);
        knotOrder.take(graph, groups);
    }

    private int shortestOdd() {
        int fewest = NONE;
        for (int v = 0; v < graph.nodes; v++) {
            layers.take(graph.near, v);
            int length = layers.firstOddWith(bit(v));
            if (length != NONE && (fewest == NONE || length < fewest)) {
                fewest = length;
            }
        }
        return fewest;
    }

    /** Every line meets the gates in the same order, so the way from a to b shows it. */
    private int lastOnWay(int a, int b, int through) {
        layers.take(graph.into, b);
        int length = layers.firstWith(bit(a));
        for (int i = length - 1; i >= 0; i--) {
            int v = layers.follow(graph.out, a, length, i);
            if (has(through, v)) {
                return v;
            }
        }
        return NONE;
    }

    private static int at(int[] row, int i) {
        return i >= 0 && i < row.length ? row[i] : 0;
    }

    private static void put(int[] row, int i, int value) {
        if (i >= 0 && i < row.length) {
            row[i] = value;
        }
    }

    private static int bit(int v) {
        return v >= 0 && v < MOST ? 1 << v : 0;
    }

    private static boolean has(int set, int v) {
        return (set & bit(v)) != 0;
    }

    private static int least(int set) {
        for (int v = 0; v < MOST; v++) {
            if (has(set, v)) {
                return v;
            }
        }
        return NONE;
    }

    /** All to which rows lead from the set in one step. */
    private static int stepFrom(int[] rows, int set) {
        int next = 0;
        int left = set;
        for (int v = 0; v < rows.length && left != 0; v++) {
            if ((left & 1) != 0) {
                next |= rows[v];
            }
            left >>>= 1;
        }
        return next;
    }

    /** All to which rows lead from start in any number of steps, by nodes of room alone. */
    private static int spread(int[] rows, int start, int room) {
        int found = start & room;
        int fresh = found;
        for (int i = 0; i < MOST && fresh != 0; i++) {
            fresh = stepFrom(rows, fresh) & room & ~found;
            found |= fresh;
        }
        return found;
    }

    /** The nodes and arcs, and what is read from them without a row more. */
    private static final class Graph {
        private final int[] out = new int[MOST];
        private final int[] into = new int[MOST];
        /** Those that touch a node: arcs either way. */
        private final int[] near = new int[MOST];
        private int nodes;
        private int arcs;

        private void empty() {
            Arrays.fill(out, 0);
            Arrays.fill(into, 0);
            Arrays.fill(near, 0);
            nodes = 0;
            arcs = 0;
        }

        private boolean isNode(int v) {
            return v >= 0 && v < nodes;
        }

        private int all() {
            return (1 << nodes) - 1;
        }

        private boolean isArc(int from, int to) {
            return has(at(out, from), to);
        }

        private void join(int from, int to) {
            put(out, from, at(out, from) | bit(to));
            put(into, to, at(into, to) | bit(from));
            arcs++;
            renewNear(from);
            renewNear(to);
        }

        private void sever(int from, int to) {
            put(out, from, at(out, from) & ~bit(to));
            put(into, to, at(into, to) & ~bit(from));
            arcs--;
            renewNear(from);
            renewNear(to);
        }

        private void renewNear(int v) {
            put(near, v, at(out, v) | at(into, v));
        }

        private int reachedFrom(int v) {
            return spread(out, bit(v), all());
        }

        private int reaching(int v) {
            return spread(into, bit(v), all());
        }

        private int partAround(int v) {
            return spread(near, bit(v), all());
        }

        /** From the least node of a part on, sides take turns; one on both lies with an odd ring. */
        private int sideOf(int v) {
            int even = bit(least(partAround(v)));
            int uneven = 0;
            for (int i = 0; i < MOST; i++) {
                uneven |= stepFrom(near, even);
                even |= stepFrom(near, uneven);
            }
            if ((even & uneven) != 0) {
                return NONE;
            }
            return has(uneven, v) ? 1 : 0;
        }

        /** A node is a gate if without it a would not come to b; so are a and b themselves. */
        private int gatesBetween(int a, int b) {
            if (!has(reachedFrom(a), b)) {
                return NONE;
            }
            int found = 0;
            for (int v = 0; v < nodes; v++) {
                if (!has(spread(out, bit(a), all() & ~bit(v)), b)) {
                    found |= bit(v);
                }
            }
            return found;
        }

        /** A line that does without the arc leaves from by another one and need not come back. */
        private boolean isNeeded(int from, int to) {
            int others = at(out, from) & ~bit(to);
            return !has(spread(out, others, all() & ~bit(from)), to);
        }

        private int countNeeded() {
            int found = 0;
            for (int from = 0; from < nodes; from++) {
                for (int to = 0; to < nodes; to++) {
                    if (isArc(from, to) && isNeeded(from, to)) {
                        found++;
                    }
                }
            }
            return found;
        }

        private boolean comesBack(int v, int room) {
            return (spread(out, at(out, v) & room, room) & at(into, v)) != 0;
        }

        /**
         * The better of best and the best set that takes gone and of the nodes up to v some more,
         * while kept stays. The greatest node is decided first, and keeping it comes before taking
         * it, so of sets with as many nodes the least number is found first, and stays. A node that
         * could not come back even with all undecided ones is never worth taking.
         */
        private static int fewest(Graph graph, int v, int kept, int gone, int best) {
            if (Integer.bitCount(gone) >= Integer.bitCount(best)) {
                return best;
            }
            if (v < 0 || v >= MOST) {
                return gone;
            }
            int found = best;
            if (!graph.comesBack(v, kept)) {
                found = fewest(graph, v - 1, kept | bit(v), gone, found);
            }
            int undecided = bit(v) - 1;
            if (graph.comesBack(v, kept | undecided)) {
                found = fewest(graph, v - 1, kept, gone | bit(v), found);
            }
            return found;
        }
    }

    /** Sets of nodes that share none, by their least nodes. */
    private static final class Groups {
        private final int[] sets = new int[MOST];
        private int size;

        private void takeKnots(Graph graph) {
            size = 0;
            for (int v = 0; v < graph.nodes; v++) {
                addIfFirst(v, graph.reachedFrom(v) & graph.reaching(v));
            }
        }

        private void takeParts(Graph graph) {
            size = 0;
            for (int v = 0; v < graph.nodes; v++) {
                addIfFirst(v, graph.partAround(v));
            }
        }

        /** A set comes once for each of its nodes; it counts when the least of them brings it. */
        private void addIfFirst(int v, int set) {
            if (least(set) == v) {
                put(sets, size, set);
                size++;
            }
        }

        private int numberOf(int v) {
            for (int k = 0; k < size; k++) {
                if (has(at(sets, k), v)) {
                    return k;
                }
            }
            return NONE;
        }
    }

    /** Which knots are ahead of which, and the orders that this leaves. Sets here are of knots. */
    private static final class KnotOrder {
        /** The knots that are ahead of a knot. */
        private final int[] before = new int[MOST];
        private int size;
        /** By sets of knots: in how many orders they can stand first. Grows to the most asked for. */
        private long[] counts = new long[1];

        private void take(Graph graph, Groups knots) {
            size = Math.min(knots.size, MOST);
            for (int k = 0; k < size; k++) {
                put(before, k, aheadOf(k, graph, knots));
            }
        }

        private int aheadOf(int k, Graph graph, Groups knots) {
            int sources = stepFrom(graph.into, at(knots.sets, k));
            int found = 0;
            for (int other = 0; other < size; other++) {
                if (other != k && (at(knots.sets, other) & sources) != 0) {
                    found |= bit(other);
                }
            }
            return found;
        }

        private int all() {
            return (1 << size) - 1;
        }

        /** The knots that may stand next when those of placed stand. */
        private int ready(int placed) {
            int found = 0;
            for (int k = 0; k < size; k++) {
                if (!has(placed, k) && (at(before, k) & ~placed) == 0) {
                    found |= bit(k);
                }
            }
            return found;
        }

        private int placeOf(int i) {
            int placed = 0;
            for (int k = 0; k < i && k < size; k++) {
                placed |= bit(least(ready(placed)));
            }
            return least(ready(placed));
        }

        /** Each round places all that can be: as many rounds as the longest chain has knots. */
        private int longestChain() {
            int placed = 0;
            int rounds = 0;
            while (placed != all() && rounds < size) {
                placed |= ready(placed);
                rounds++;
            }
            return rounds;
        }

        private long countAll() {
            int every = all();
            if (counts.length <= every) {
                counts = new long[every + 1];
            }
            Arrays.fill(counts, 0L);
            counts[0] = 1L;
            for (int placed = 0; placed < every && placed < counts.length; placed++) {
                if (counts[placed] != 0L) {
                    handOn(placed, counts[placed]);
                }
            }
            return every < counts.length ? counts[every] : 0L;
        }

        /** Does what ready does, too, but without a pass more: most of the time goes by here. */
        private void handOn(int placed, long count) {
            int missing = ~placed;
            for (int k = 0; k < size && k < before.length; k++) {
                int more = placed | 1 << k;
                if (more != placed && (before[k] & missing) == 0 && more < counts.length) {
                    counts[more] += count;
                }
            }
        }

        /**
         * Each knot with none ahead needs an arc to it, each that is ahead of none one from it, and
         * an arc can serve one of either kind; so many do, unless there is but one knot.
         */
        private int missingArcs() {
            if (size <= 1) {
                return 0;
            }
            int ahead = 0;
            for (int k = 0; k < size; k++) {
                ahead |= at(before, k);
            }
            int first = Integer.bitCount(ready(0));
            int last = Integer.bitCount(all() & ~ahead);
            return Math.max(first, last);
        }
    }

    /** By numbers of steps: the nodes that come to a goal in just as many, be it with detours. */
    private static final class Layers {
        private final int[] sets = new int[MOST + 1];

        /** The rows lead back from the goal. */
        private void take(int[] rows, int goal) {
            int next = bit(goal);
            for (int i = 0; i < sets.length; i++) {
                sets[i] = next;
                next = stepFrom(rows, next);
            }
        }

        private int firstWith(int set) {
            for (int i = 0; i < sets.length; i++) {
                if ((sets[i] & set) != 0) {
                    return i;
                }
            }
            return NONE;
        }

        /**
         * For walks from a node to itself. The shortest odd one of all has no node twice, as it
         * would fall into two shorter ones there, one of them odd: so it is an odd ring.
         */
        private int firstOddWith(int set) {
            for (int i = 1; i < sets.length; i += 2) {
                if ((sets[i] & set) != 0) {
                    return i;
                }
            }
            return NONE;
        }

        /** Node i of the first row, by numbers, that goes from start to the goal in length steps. */
        private int follow(int[] rows, int start, int length, int i) {
            int v = start;
            for (int k = 1; k <= i && k <= length; k++) {
                v = least(at(rows, v) & at(sets, length - k));
            }
            return v;
        }
    }
}
