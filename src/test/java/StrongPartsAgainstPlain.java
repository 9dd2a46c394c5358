import java.util.HashMap;
import java.util.Map;
import java.util.Random;

/**
 * The class beside a plain one that goes by the document's words over a table of arcs: on all graphs
 * of four nodes at most, on greater ones by chance (the same each time), and on runs of 512 calls.
 */
public final class StrongPartsAgainstPlain {
    private static final int NONE = -1;
    private static final int BAD = -2;
    private static final int FULL = -3;
    private static final int THERE = -4;

    private static int wrong = 0;
    private static long asked = 0;

    public static void main(String[] args) {
        for (int nodes = 0; nodes <= 4; nodes++) {
            allGraphs(nodes);
        }
        Random random = new Random(20261115L);
        for (int i = 0; i < 300; i++) {
            askAll(byChance(random, 5 + random.nextInt(3), random.nextInt(101)));
        }
        for (int i = 0; i < 60; i++) {
            askAll(byChance(random, 8 + random.nextInt(8), random.nextInt(1 + random.nextInt(101))));
        }
        for (int i = 0; i < 400; i++) {
            randomRun(random, 1 + random.nextInt(8));
        }
        for (int i = 0; i < 40; i++) {
            randomRun(random, 15);
        }
        System.out.println(asked + " answers looked at, " + wrong + " not as due");
        if (wrong != 0) {
            System.exit(1);
        }
    }

    private static void allGraphs(int nodes) {
        int pairs = nodes * (nodes - 1);
        for (int chosen = 0; chosen < 1 << pairs; chosen++) {
            Plain plain = new Plain();
            plain.n = nodes;
            int pair = 0;
            for (int a = 0; a < nodes; a++) {
                for (int b = 0; b < nodes; b++) {
                    if (a != b) {
                        plain.arc[a][b] = (chosen >> pair++ & 1) != 0;
                    }
                }
            }
            askAll(plain);
        }
    }

    private static Plain byChance(Random random, int nodes, int percent) {
        Plain plain = new Plain();
        plain.n = nodes;
        for (int a = 0; a < nodes; a++) {
            for (int b = 0; b < nodes; b++) {
                plain.arc[a][b] = a != b && random.nextInt(100) < percent;
            }
        }
        return plain;
    }

    /** Every question with every number from -1 to one too many. */
    private static void askAll(Plain plain) {
        Supply supply = new Supply(plain.shape());
        for (Call call : Call.EACH) {
            if (call.changes()) {
                continue;
            }
            int end = plain.n;
            for (int a = call.numbers() > 0 ? -1 : end; a <= end; a++) {
                for (int b = call.numbers() > 1 ? -1 : end; b <= end; b++) {
                    for (int i = call.numbers() > 2 ? -1 : end; i <= end; i++) {
                        ask(supply.forOne(), plain, call, a, b, i);
                    }
                }
            }
        }
    }

    private static void randomRun(Random random, int mostNodes) {
        StrongParts x = new StrongParts();
        Plain plain = new Plain();
        for (int i = 0; i < Shape.MOST_CALLS && wrong < 20; i++) {
            Call call = i < mostNodes ? Call.named("node") : callByChance(random);
            boolean enough = i >= mostNodes && plain.n >= mostNodes && mostNodes < 15;
            boolean tooSoon = random.nextInt(8) != 0;
            if (call.name().equals("node") && enough || call.name().equals("clear") && tooSoon) {
                continue;
            }
            int bound = plain.n + 2;
            ask(x, plain, call, random.nextInt(bound) - random.nextInt(2),
                    random.nextInt(bound) - random.nextInt(2), random.nextInt(bound) - 1);
        }
    }

    /** Arcs are made and cut more often than the rest is asked. */
    private static Call callByChance(Random random) {
        if (random.nextInt(3) == 0) {
            return Call.named(random.nextInt(5) == 0 ? "cut" : "arc");
        }
        return Call.EACH[random.nextInt(Call.EACH.length)];
    }

    /** Adding takes too long here above five nodes; StrongPartsWhatItIs looks at it another way. */
    private static void ask(StrongParts x, Plain plain, Call call, int a, int b, int i) {
        if (call.name().equals("adding") && plain.n > 5) {
            return;
        }
        long want = plain.answer(call.name(), a, b, i);
        long got = call.answer(x, a, b, i);
        asked++;
        if (got != want && wrong++ < 20) {
            System.out.println(call.with(a, b, i) + " answered " + got + ", due is " + want + " on "
                    + plain.shape().name());
        }
    }

    /** The document's words over a table of arcs. */
    private static final class Plain {
        private static final int FAR = 1000;

        private final boolean[][] arc = new boolean[15][15];
        private int n = 0;

        private long answer(String call, int a, int b, int i) {
            boolean badA = a < 0 || a >= n;
            boolean badB = b < 0 || b >= n;
            switch (call) {
                case "clear": return clear();
                case "node": return n == 15 ? FULL : n++;
                case "arc": return badA || badB || a == b ? BAD : change(a, b, true, THERE);
                case "cut": return badA || badB || a == b ? BAD : change(a, b, false, NONE);
                case "knots": return firsts(mutual()).length;
                case "knot": return badA ? BAD : number(mutual(), a);
                case "members": return a < 0 || a >= firsts(mutual()).length ? BAD
                        : set(mutual()[firsts(mutual())[a]]);
                case "order": return a < 0 || a >= firsts(mutual()).length ? BAD : firstOrder()[a];
                case "orders": return orders((1 << firsts(mutual()).length) - 1, ahead(), new HashMap<>());
                case "depth": return depth();
                case "steps": return badA || badB ? BAD : near(distances(arc)[a][b]);
                case "way": return badA || badB ? BAD : way(a, b, i);
                case "reached": return badA || b < 0 || b > 1 ? BAD : reached(a, b);
                case "round": return badA ? BAD : round(a);
                case "parts": return firsts(reach(touch())).length;
                case "part": return badA ? BAD : number(reach(touch()), a);
                case "side": return badA ? BAD : side(a);
                case "odd": return oddRing() == null ? NONE : oddRing().length;
                case "ring": return ring(a);
                case "adding": return adding();
                case "roots": return roots();
                case "half": return half();
                case "gates": return badA || badB ? BAD : gates(a, b);
                case "gate": return badA || badB ? BAD : gate(a, b);
                case "needed": return badA || badB ? BAD : needed(a, b);
                case "loosen": return loosen();
                case "of": return a == 0 ? n : a == 1 ? arcs() : a == 2 ? allNeeded() : BAD;
                default: throw new IllegalStateException(call);
            }
        }

        private Shape shape() {
            Shape shape = new Shape(n + " NODES", n, 0);
            for (int a = 0; a < n; a++) {
                for (int b = 0; b < n; b++) {
                    shape = arc[a][b] ? shape.with(a, b) : shape;
                }
            }
            return shape;
        }

        private int clear() {
            int before = n;
            n = 0;
            for (boolean[] row : arc) {
                java.util.Arrays.fill(row, false);
            }
            return before;
        }

        private int change(int a, int b, boolean to, int refusal) {
            if (arc[a][b] == to) {
                return refusal;
            }
            arc[a][b] = to;
            return arcs();
        }

        private int arcs() {
            int count = 0;
            for (boolean[] row : arc) {
                count += Integer.bitCount(set(row));
            }
            return count;
        }

        private int set(boolean[] row) {
            int set = 0;
            for (int v = 0; v < n; v++) {
                set |= row[v] ? 1 << v : 0;
            }
            return set;
        }

        private int near(int distance) {
            return distance >= FAR ? NONE : distance;
        }

        private int[][] distances(boolean[][] of) {
            int[][] d = new int[n][n];
            for (int a = 0; a < n; a++) {
                for (int b = 0; b < n; b++) {
                    d[a][b] = a == b ? 0 : of[a][b] ? 1 : FAR;
                }
            }
            for (int k = 0; k < n; k++) {
                for (int a = 0; a < n; a++) {
                    for (int b = 0; b < n; b++) {
                        d[a][b] = Math.min(d[a][b], d[a][k] + d[k][b]);
                    }
                }
            }
            return d;
        }

        private boolean[][] reach(boolean[][] of) {
            int[][] d = distances(of);
            boolean[][] reach = new boolean[n][n];
            for (int a = 0; a < n; a++) {
                for (int b = 0; b < n; b++) {
                    reach[a][b] = d[a][b] < FAR;
                }
            }
            return reach;
        }

        private boolean[][] mutual() {
            boolean[][] reach = reach(arc);
            boolean[][] both = new boolean[n][n];
            for (int a = 0; a < n; a++) {
                for (int b = 0; b < n; b++) {
                    both[a][b] = reach[a][b] && reach[b][a];
                }
            }
            return both;
        }

        private boolean[][] touch() {
            boolean[][] touch = new boolean[n][n];
            for (int a = 0; a < n; a++) {
                for (int b = 0; b < n; b++) {
                    touch[a][b] = arc[a][b] || arc[b][a];
                }
            }
            return touch;
        }

        /** The least nodes of the classes of a relation. */
        private int[] firsts(boolean[][] same) {
            int[] found = new int[n];
            int count = 0;
            for (int v = 0; v < n; v++) {
                int least = 0;
                while (!same[v][least]) {
                    least++;
                }
                if (least == v) {
                    found[count++] = v;
                }
            }
            return java.util.Arrays.copyOf(found, count);
        }

        private int number(boolean[][] same, int v) {
            int[] firsts = firsts(same);
            int number = 0;
            while (!same[firsts[number]][v]) {
                number++;
            }
            return number;
        }

        private boolean[][] ahead() {
            boolean[][] same = mutual();
            int knots = firsts(same).length;
            boolean[][] ahead = new boolean[knots][knots];
            for (int a = 0; a < n; a++) {
                for (int b = 0; b < n; b++) {
                    if (arc[a][b] && !same[a][b]) {
                        ahead[number(same, a)][number(same, b)] = true;
                    }
                }
            }
            return ahead;
        }

        private int[] firstOrder() {
            boolean[][] ahead = ahead();
            int[] row = new int[ahead.length];
            if (!place(row, 0, 0, ahead)) {
                throw new IllegalStateException("no order");
            }
            return row;
        }

        /** Goes through rows by numbers and gives up one as soon as a knot stands wrong. */
        private boolean place(int[] row, int length, int placed, boolean[][] ahead) {
            if (length == row.length) {
                return true;
            }
            for (int k = 0; k < row.length; k++) {
                boolean fits = (placed >> k & 1) == 0;
                for (int other = 0; other < row.length; other++) {
                    fits &= !ahead[other][k] || (placed >> other & 1) != 0;
                }
                row[length] = k;
                if (fits && place(row, length + 1, placed | 1 << k, ahead)) {
                    return true;
                }
            }
            return false;
        }

        /** From the last place on: there stands one that is ahead of none that are left. */
        private long orders(int left, boolean[][] ahead, Map<Integer, Long> known) {
            if (left == 0) {
                return 1;
            }
            Long before = known.get(left);
            if (before != null) {
                return before;
            }
            long sum = 0;
            for (int k = 0; k < ahead.length; k++) {
                boolean last = (left >> k & 1) != 0;
                for (int other = 0; other < ahead.length; other++) {
                    last &= (left >> other & 1) == 0 || !ahead[k][other];
                }
                if (last) {
                    sum += orders(left & ~(1 << k), ahead, known);
                }
            }
            known.put(left, sum);
            return sum;
        }

        private int depth() {
            boolean[][] ahead = ahead();
            int[] longest = new int[ahead.length];
            int most = 0;
            for (int round = 0; round < ahead.length; round++) {
                for (int k = 0; k < ahead.length; k++) {
                    longest[k] = Math.max(longest[k], 1);
                    for (int other = 0; other < ahead.length; other++) {
                        if (ahead[k][other]) {
                            longest[k] = Math.max(longest[k], 1 + longest[other]);
                        }
                    }
                    most = Math.max(most, longest[k]);
                }
            }
            return most;
        }

        /** Goes through lines with as many nodes by their numbers. */
        private int way(int a, int b, int i) {
            int[][] d = distances(arc);
            if (d[a][b] >= FAR || i < 0 || i > d[a][b]) {
                return NONE;
            }
            int[] row = new int[d[a][b] + 1];
            row[0] = a;
            if (!line(row, 1, b, d)) {
                throw new IllegalStateException("no line");
            }
            return row[i];
        }

        private boolean line(int[] row, int length, int goal, int[][] d) {
            if (length == row.length) {
                return row[length - 1] == goal;
            }
            for (int v = 0; v < n; v++) {
                row[length] = v;
                if (arc[row[length - 1]][v] && d[v][goal] <= row.length - 1 - length
                        && line(row, length + 1, goal, d)) {
                    return true;
                }
            }
            return false;
        }

        private int reached(int v, int which) {
            boolean[][] reach = reach(arc);
            int set = 0;
            for (int w = 0; w < n; w++) {
                set |= (which == 0 ? reach[v][w] : reach[w][v]) ? 1 << w : 0;
            }
            return set;
        }

        private int round(int v) {
            int[][] d = distances(arc);
            int least = FAR;
            for (int w = 0; w < n; w++) {
                if (w != v) {
                    least = Math.min(least, d[v][w] + d[w][v]);
                }
            }
            return near(least);
        }

        private int side(int v) {
            boolean[][] touch = touch();
            int least = firsts(reach(touch))[number(reach(touch), v)];
            int[] side = new int[n];
            java.util.Arrays.fill(side, NONE);
            return colour(touch, side, least, 0) ? side[v] : NONE;
        }

        private boolean colour(boolean[][] touch, int[] side, int v, int wanted) {
            if (side[v] != NONE) {
                return side[v] == wanted;
            }
            side[v] = wanted;
            for (int w = 0; w < n; w++) {
                if (touch[v][w] && !colour(touch, side, w, 1 - wanted)) {
                    return false;
                }
            }
            return true;
        }

        private int[] oddRing() {
            boolean[][] touch = touch();
            boolean some = false;
            for (int v = 0; v < n; v++) {
                some |= side(v) == NONE;
            }
            for (int length = 3; some && length <= n; length += 2) {
                for (int v = 0; v < n; v++) {
                    int[] row = new int[length];
                    row[0] = v;
                    if (close(row, 1, touch, distances(touch))) {
                        return row;
                    }
                }
            }
            return null;
        }

        private boolean close(int[] row, int length, boolean[][] touch, int[][] d) {
            if (length == row.length) {
                return touch[row[length - 1]][row[0]];
            }
            for (int v = 0; v < n; v++) {
                boolean fits = touch[row[length - 1]][v] && d[v][row[0]] <= row.length - length;
                for (int i = 0; i < length; i++) {
                    fits &= row[i] != v;
                }
                row[length] = v;
                if (fits && close(row, length + 1, touch, d)) {
                    return true;
                }
            }
            return false;
        }

        private int ring(int i) {
            int[] row = oddRing();
            return row == null || i < 0 || i >= row.length ? NONE : row[i];
        }

        /** Tries all ways to add as many arcs, from none on. */
        private int adding() {
            for (int more = 0; more <= n; more++) {
                if (addable(more, 0)) {
                    return more;
                }
            }
            throw new IllegalStateException("a ring of all would do");
        }

        private boolean addable(int more, int firstPair) {
            if (more == 0) {
                return firsts(mutual()).length <= 1;
            }
            for (int pair = firstPair; pair < n * n; pair++) {
                int a = pair / n;
                int b = pair % n;
                if (a != b && !arc[a][b]) {
                    arc[a][b] = true;
                    boolean does = addable(more - 1, pair + 1);
                    arc[a][b] = false;
                    if (does) {
                        return true;
                    }
                }
            }
            return false;
        }

        private int roots() {
            int set = 0;
            for (int v = 0; v < n; v++) {
                set |= reached(v, 0) == (1 << n) - 1 ? 1 << v : 0;
            }
            return set;
        }

        private int half() {
            boolean[][] reach = reach(arc);
            for (int a = 0; a < n; a++) {
                for (int b = 0; b < n; b++) {
                    if (!reach[a][b] && !reach[b][a]) {
                        return 0;
                    }
                }
            }
            return 1;
        }

        private int gates(int a, int b) {
            if (!reach(arc)[a][b]) {
                return NONE;
            }
            int set = 1 << a | 1 << b;
            for (int v = 0; v < n; v++) {
                if (v != a && v != b && !reach(without(v))[a][b]) {
                    set |= 1 << v;
                }
            }
            return set;
        }

        private boolean[][] without(int v) {
            boolean[][] less = new boolean[n][n];
            for (int a = 0; a < n; a++) {
                for (int b = 0; b < n; b++) {
                    less[a][b] = arc[a][b] && a != v && b != v;
                }
            }
            return less;
        }

        /** The last gate is the one before which all the others come. */
        private int gate(int a, int b) {
            if (a == b || !reach(arc)[a][b]) {
                return NONE;
            }
            int others = gates(a, b) & ~(1 << b);
            for (int v = 0; v < n; v++) {
                if ((others >> v & 1) != 0 && (others & ~gates(a, v)) == 0) {
                    return v;
                }
            }
            throw new IllegalStateException("no last gate");
        }

        private int needed(int a, int b) {
            if (!arc[a][b]) {
                return NONE;
            }
            arc[a][b] = false;
            boolean still = reach(arc)[a][b];
            arc[a][b] = true;
            return still ? 0 : 1;
        }

        private int allNeeded() {
            int count = 0;
            for (int a = 0; a < n; a++) {
                for (int b = 0; b < n; b++) {
                    count += needed(a, b) == 1 ? 1 : 0;
                }
            }
            return count;
        }

        private int loosen() {
            int[] out = new int[n];
            for (int v = 0; v < n; v++) {
                out[v] = set(arc[v]);
            }
            int all = (1 << n) - 1;
            int best = all;
            for (int gone = all; gone >= 0; gone--) {
                if (Integer.bitCount(gone) <= Integer.bitCount(best) && endsAll(out, all & ~gone)) {
                    best = gone;
                }
            }
            return best;
        }

        /** Takes away nodes without arcs to those that are left, till there are none such. */
        private static boolean endsAll(int[] out, int kept) {
            int left = kept;
            boolean changed = true;
            while (changed) {
                changed = false;
                for (int v = 0; v < out.length; v++) {
                    if ((left >> v & 1) != 0 && (out[v] & left) == 0) {
                        left &= ~(1 << v);
                        changed = true;
                    }
                }
            }
            return left == 0;
        }
    }
}
