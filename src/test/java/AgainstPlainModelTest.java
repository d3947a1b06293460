import java.math.BigInteger;
import java.util.ArrayList;
import java.util.Arrays;
import java.util.List;
import java.util.Random;

/** Runs of calls, wrong ones among them, against a model that writes out every way and every tree. */
public final class AgainstPlainModelTest {
    private static final int RUNS = 400;
    private static final int CALLS = 512;
    private static int wrong = 0;

    public static void main(String[] args) {
        for (int run = 0; run < RUNS && wrong < 20; run++) {
            new Run(run).go();
        }
        System.out.println(wrong == 0 ? "the class and the plain model agree" : wrong + " runs differ");
        if (wrong != 0) {
            System.exit(1);
        }
    }

    /** One run; its number sets the seed and how rich the run is, so that all trees can be written out. */
    private static final class Run {
        /** Most kinds, most places, and of how many rules one may weigh anything. */
        private static final int[][] SHAPES = {
            {1, 6, 1}, {2, 6, 1}, {3, 4, 1}, {4, 4, 1}, {4, 3, 1}, {2, 5, 1}, {3, 6, 2}, {4, 6, 2}, {4, 5, 2}
        };
        private final int number;
        private final Random random;
        private final HiddenRows real = new HiddenRows();
        private final Plain plain = new Plain();
        private final StringBuilder calls = new StringBuilder();
        private final int mostKinds;
        private final int mostPlaces;
        private final int oneRuleOf;
        private final int mostStates;
        private final int oddsOfZero;

        Run(int number) {
            this.number = number;
            random = new Random(number * 7919L + 5);
            int[] shape = SHAPES[number % SHAPES.length];
            mostKinds = shape[0];
            mostPlaces = shape[1];
            oneRuleOf = shape[2];
            mostStates = 1 + random.nextInt(4);
            oddsOfZero = random.nextInt(3);
        }

        void go() {
            for (int call = 0; call < CALLS; call++) {
                if (!step(random.nextInt(call < 120 ? 10 : 34))) {
                    wrong++;
                    System.out.println("run " + number + ":" + calls);
                    return;
                }
            }
        }

        private boolean step(int which) {
            switch (which) {
                case 0: return plain.states.size() < mostStates || plain.states.size() == 4
                    ? same("state()", real.state(), plain.state()) : true;
                case 1: return plain.kinds < mostKinds || plain.kinds == 4
                    ? same("kind()", real.kind(), plain.kind()) : true;
                case 2: case 3: return weightCall(near(plain.states.size()), near(9), someWeight());
                case 4: return moveCall(near(plain.states.size()), near(plain.states.size()), someWeight());
                case 5: case 6: return ruleCall(near(plain.kinds), near(plain.kinds), near(plain.kinds), ruleWeight());
                case 7: return leafCall(near(plain.kinds), near(4), someWeight());
                case 8: return signCall();
                case 9: return rowCall();
                default: return asking(which);
            }
        }

        private boolean rowCall() {
            int dice = random.nextInt(12);
            if (dice == 0) {
                return same("clear()", real.clear(), plain.clear());
            }
            if (dice > 4) {
                return signCall();
            }
            int place = near(plain.row.size());
            int state = dice < 3 ? -1 : near(plain.states.size());
            return same("hold(" + place + ", " + state + ")", real.hold(place, state), plain.hold(place, state));
        }

        private boolean signCall() {
            if (plain.row.size() >= mostPlaces && plain.row.size() < 6) {
                return true;
            }
            int s = random.nextInt(20) == 0 ? 4 - random.nextInt(2) * 6 : random.nextInt(5) - 1;
            return same("sign(" + s + ")", real.sign(s), plain.sign(s));
        }

        private boolean weightCall(int state, int what, int w) {
            return same("weight(" + state + ", " + what + ", " + w + ")",
                real.weight(state, what, w), plain.weight(state, what, w));
        }

        private boolean moveCall(int from, int to, int w) {
            return same("move(" + from + ", " + to + ", " + w + ")", real.move(from, to, w), plain.move(from, to, w));
        }

        private boolean ruleCall(int a, int b, int c, int w) {
            return same("rule(" + a + ", " + b + ", " + c + ", " + w + ")",
                real.rule(a, b, c, w), plain.rule(a, b, c, w));
        }

        private boolean leafCall(int kind, int sign, int w) {
            return same("leaf(" + kind + ", " + sign + ", " + w + ")",
                real.leaf(kind, sign, w), plain.leaf(kind, sign, w));
        }

        private boolean asking(int which) {
            int place = near(plain.row.size());
            int state = near(plain.states.size());
            int part = random.nextInt(15) == 0 ? 2 - random.nextInt(2) * 3 : random.nextInt(2);
            int kind = near(plain.kinds);
            switch (which) {
                case 10: return same("total()", real.total(), plain.total());
                case 11: return same("ways()", real.ways(), plain.ways());
                case 12: case 13: return same("share(" + place + ", " + state + ", " + part + ")",
                    real.share(place, state, part), plain.share(place, state, part));
                case 14: case 15: return same("begin(" + place + ", " + state + ", " + part + ")",
                    real.begin(place, state, part), plain.begin(place, state, part));
                case 16: case 17: return pairCall(place, state, near(plain.states.size()), part);
                case 18: return same("top(" + place + ")", real.top(place), plain.top(place));
                case 19: case 20: case 21: return bestCalls(near(10), place);
                case 22: case 23: return drawCall(random.nextInt());
                case 24: return same("drawnAt(" + place + ")", real.drawnAt(place), plain.drawnAt(place));
                case 25: return same("trees(" + kind + ")", real.trees(kind), plain.trees(kind));
                case 26: return same("treeCount(" + kind + ")", real.treeCount(kind), plain.treeCount(kind));
                case 27: return same("treeBest(" + kind + ")", real.treeBest(kind), plain.treeBest(kind));
                case 28: case 29: return treeAtCall(kind, near(Math.max(1, 2 * plain.row.size() - 1)));
                default: return spanCall(kind, near(plain.kinds), place, near(plain.row.size()), part);
            }
        }

        private boolean pairCall(int place, int from, int to, int part) {
            return same("pair(" + place + ", " + from + ", " + to + ", " + part + ")",
                real.pair(place, from, to, part), plain.pair(place, from, to, part));
        }

        private boolean bestCalls(int k, int place) {
            return same("best(" + k + ")", real.best(k), plain.best(k))
                && same("bestAt(" + k + ", " + place + ")", real.bestAt(k, place), plain.bestAt(k, place));
        }

        private boolean drawCall(int seed) {
            boolean good = same("drawn(" + seed + ")", real.drawn(seed), plain.drawn(seed));
            for (int place = -1; good && place <= plain.row.size(); place++) {
                good = same("drawnAt(" + place + ")", real.drawnAt(place), plain.drawnAt(place));
            }
            return good;
        }

        private boolean treeAtCall(int kind, int i) {
            return same("treeAt(" + kind + ", " + i + ")", real.treeAt(kind, i), plain.treeAt(kind, i));
        }

        private boolean spanCall(int kind, int within, int i, int j, int part) {
            return same("span(" + kind + ", " + within + ", " + i + ", " + j + ", " + part + ")",
                real.span(kind, within, i, j, part), plain.span(kind, within, i, j, part));
        }

        private int someWeight() {
            int dice = random.nextInt(30);
            if (dice == 0) {
                return 5;
            }
            if (dice == 1) {
                return -1;
            }
            return random.nextInt(3) < oddsOfZero ? random.nextInt(2) : random.nextInt(5);
        }

        private int ruleWeight() {
            return random.nextInt(oneRuleOf) == 0 ? someWeight() : 0;
        }

        /** Mostly one of 0 .. count - 1, now and then one beside them. */
        private int near(int count) {
            int dice = random.nextInt(40);
            if (dice == 0) {
                return -1;
            }
            if (dice == 1) {
                return count;
            }
            if (dice == 2) {
                return random.nextBoolean() ? Integer.MAX_VALUE : Integer.MIN_VALUE;
            }
            return count == 0 ? 0 : random.nextInt(count);
        }

        private boolean same(String call, long got, long want) {
            calls.append(' ').append(call).append('=').append(got);
            if (got != want) {
                calls.append(" BUT DUE IS ").append(want);
            }
            return got == want;
        }
    }

    /** What a way tells, with its weight. */
    private static final class Told {
        final int[] numbers;
        final BigInteger weight;

        Told(int[] numbers, BigInteger weight) {
            this.numbers = numbers;
            this.weight = weight;
        }
    }

    /** A tree; left and right are null for a leaf. */
    private static final class Tree {
        final int kind;
        final int from;
        final int to;
        final long weight;
        final Tree left;
        final Tree right;

        Tree(int kind, int from, int to, long weight, Tree left, Tree right) {
            this.kind = kind;
            this.from = from;
            this.to = to;
            this.weight = weight;
            this.left = left;
            this.right = right;
        }

        void tell(List<Integer> into) {
            if (left == null) {
                into.add(0);
                return;
            }
            into.add(100 * right.from + 10 * left.kind + right.kind);
            left.tell(into);
            right.tell(into);
        }

        boolean has(int aKind, int i, int j) {
            if (kind == aKind && from == i && to == j) {
                return true;
            }
            return left != null && (left.has(aKind, i, j) || right.has(aKind, i, j));
        }
    }

    /** The document's words, as plainly as can be. */
    private static final class Plain {
        final List<int[]> states = new ArrayList<>();
        final List<Integer> row = new ArrayList<>();
        private final List<Integer> held = new ArrayList<>();
        private final int[][] moves = new int[4][4];
        int kinds = 0;
        private final int[][][] rules = new int[4][4][4];
        private final int[][] leaves = new int[4][4];
        private int[] latestDrawn = null;
        private List<Told> allWays = null;
        private final List<List<Tree>> allTrees = new ArrayList<>();

        private void changed() {
            latestDrawn = null;
            allWays = null;
        }

        private void treesChanged() {
            allTrees.clear();
        }

        private boolean noState(int s) {
            return s < 0 || s >= states.size();
        }

        private boolean noKind(int k) {
            return k < 0 || k >= kinds;
        }

        private boolean noPlace(int p) {
            return p < 0 || p >= row.size();
        }

        private static boolean badWeight(int w) {
            return w < 0 || w > 4;
        }

        private static boolean badPart(int part) {
            return part != 0 && part != 1;
        }

        int state() {
            if (states.size() == 4) {
                return -4;
            }
            changed();
            states.add(new int[] {1, 1, 1, 0, 0, 0, 0, 0, 0});
            return states.size() - 1;
        }

        int weight(int state, int what, int w) {
            if (noState(state) || what < 0 || what > 8) {
                return -1;
            }
            if (badWeight(w)) {
                return -2;
            }
            changed();
            int was = states.get(state)[what];
            states.get(state)[what] = w;
            return was;
        }

        int move(int from, int to, int w) {
            if (noState(from) || noState(to)) {
                return -1;
            }
            if (badWeight(w)) {
                return -2;
            }
            changed();
            int was = moves[from][to];
            moves[from][to] = w;
            return was;
        }

        int kind() {
            if (kinds == 4) {
                return -4;
            }
            treesChanged();
            return kinds++;
        }

        int rule(int a, int b, int c, int w) {
            if (noKind(a) || noKind(b) || noKind(c)) {
                return -1;
            }
            if (badWeight(w)) {
                return -2;
            }
            treesChanged();
            int was = rules[a][b][c];
            rules[a][b][c] = w;
            return was;
        }

        int leaf(int kind, int sign, int w) {
            if (noKind(kind) || sign < 0 || sign > 3) {
                return -1;
            }
            if (badWeight(w)) {
                return -2;
            }
            treesChanged();
            int was = leaves[kind][sign];
            leaves[kind][sign] = w;
            return was;
        }

        int sign(int s) {
            if (s < -1 || s > 3) {
                return -2;
            }
            if (row.size() == 6) {
                return -4;
            }
            changed();
            treesChanged();
            row.add(s);
            held.add(-1);
            return row.size();
        }

        int clear() {
            int was = row.size();
            changed();
            treesChanged();
            row.clear();
            held.clear();
            return was;
        }

        int hold(int place, int state) {
            if (noPlace(place) || (state != -1 && noState(state))) {
                return -1;
            }
            changed();
            return held.set(place, state);
        }

        private List<Told> waysAbove0() {
            if (allWays == null) {
                allWays = new ArrayList<>();
                int[] tells = new int[row.size()];
                if (!row.isEmpty()) {
                    writeWays(tells, 0);
                }
                allWays.sort((a, b) -> Arrays.compare(a.numbers, b.numbers));
            }
            return allWays;
        }

        private void writeWays(int[] tells, int place) {
            if (place == row.size()) {
                BigInteger weight = weigh(tells);
                if (weight.signum() > 0) {
                    allWays.add(new Told(tells.clone(), weight));
                }
                return;
            }
            for (int s = 0; s < states.size(); s++) {
                for (int end = place + 1; end <= Math.min(place + 3, row.size()); end++) {
                    for (int p = place; p < end; p++) {
                        tells[p] = p == place ? 2 * s : 2 * s + 1;
                    }
                    writeWays(tells, end);
                }
            }
        }

        private BigInteger weigh(int[] tells) {
            int n = tells.length;
            BigInteger weight = BigInteger.valueOf(states.get(tells[0] / 2)[0] * states.get(tells[n - 1] / 2)[1]);
            int p = 0;
            while (p < n) {
                int state = tells[p] / 2;
                int end = p + 1;
                while (end < n && tells[end] % 2 == 1) {
                    end++;
                }
                weight = weight.multiply(BigInteger.valueOf(states.get(state)[1 + end - p]));
                if (end < n) {
                    weight = weight.multiply(BigInteger.valueOf(moves[state][tells[end] / 2]));
                }
                p = end;
            }
            for (int q = 0; q < n; q++) {
                weight = weight.multiply(BigInteger.valueOf(shows(q, tells[q] / 2)));
            }
            return weight;
        }

        private int shows(int place, int state) {
            if (held.get(place) != -1 && held.get(place) != state) {
                return 0;
            }
            int[] of = states.get(state);
            return row.get(place) == -1 ? of[5] + of[6] + of[7] + of[8] : of[5 + row.get(place)];
        }

        private BigInteger sumOf(int place, int number, int orNumber, int nextNumber) {
            BigInteger sum = BigInteger.ZERO;
            for (Told way : waysAbove0()) {
                boolean here = way.numbers[place] == number || way.numbers[place] == orNumber;
                boolean next = nextNumber < 0 || way.numbers[place + 1] == nextNumber;
                if (here && next) {
                    sum = sum.add(way.weight);
                }
            }
            return sum;
        }

        private BigInteger sumOfAll() {
            BigInteger sum = BigInteger.ZERO;
            for (Told way : waysAbove0()) {
                sum = sum.add(way.weight);
            }
            return sum;
        }

        private static long part(BigInteger above, BigInteger below, int part) {
            if (below.signum() == 0) {
                return -3;
            }
            BigInteger common = above.gcd(below);
            return (part == 0 ? above : below).divide(common).longValueExact();
        }

        long total() {
            return sumOfAll().longValueExact();
        }

        int ways() {
            return waysAbove0().size();
        }

        long share(int place, int state, int part) {
            if (noPlace(place) || noState(state)) {
                return -1;
            }
            if (badPart(part)) {
                return -2;
            }
            return part(sumOf(place, 2 * state, 2 * state + 1, -1), sumOfAll(), part);
        }

        long begin(int place, int state, int part) {
            if (noPlace(place) || noState(state)) {
                return -1;
            }
            if (badPart(part)) {
                return -2;
            }
            return part(sumOf(place, 2 * state, 2 * state, -1), sumOfAll(), part);
        }

        long pair(int place, int from, int to, int part) {
            if (noPlace(place) || place == row.size() - 1 || noState(from) || noState(to)) {
                return -1;
            }
            if (badPart(part)) {
                return -2;
            }
            return part(sumOf(place, 2 * from, 2 * from + 1, 2 * to), sumOfAll(), part);
        }

        int top(int place) {
            if (noPlace(place)) {
                return -1;
            }
            if (sumOfAll().signum() == 0) {
                return -3;
            }
            int top = 0;
            BigInteger most = BigInteger.ONE.negate();
            for (int s = 0; s < states.size(); s++) {
                BigInteger sum = sumOf(place, 2 * s, 2 * s + 1, -1);
                if (sum.compareTo(most) > 0) {
                    most = sum;
                    top = s;
                }
            }
            return top;
        }

        private List<Told> bestWays() {
            List<Told> sorted = new ArrayList<>(waysAbove0());
            sorted.sort((a, b) -> b.weight.compareTo(a.weight));
            return sorted;
        }

        long best(int k) {
            if (k < 0 || k > 9) {
                return -2;
            }
            List<Told> best = bestWays();
            return k < best.size() ? best.get(k).weight.longValueExact() : -3;
        }

        int bestAt(int k, int place) {
            long weight = best(k);
            if (weight < 0) {
                return (int) weight;
            }
            return noPlace(place) ? -1 : bestWays().get(k).numbers[place];
        }

        long drawn(int seed) {
            BigInteger all = sumOfAll();
            if (all.signum() == 0) {
                return -3;
            }
            int z = seed * 1664525 + 1013904223;
            BigInteger x = BigInteger.valueOf(z >>> 1);
            z = z * 1664525 + 1013904223;
            BigInteger y = BigInteger.valueOf(z >>> 1);
            BigInteger u = x.multiply(BigInteger.valueOf(2147483648L)).add(y).mod(all);
            BigInteger sum = BigInteger.ZERO;
            for (Told way : waysAbove0()) {
                sum = sum.add(way.weight);
                if (sum.compareTo(u) > 0) {
                    latestDrawn = way.numbers;
                    return way.weight.longValueExact();
                }
            }
            throw new IllegalStateException();
        }

        int drawnAt(int place) {
            if (latestDrawn == null) {
                return -3;
            }
            return noPlace(place) ? -1 : latestDrawn[place];
        }

        private List<Tree> treesAbove0(int kind) {
            if (allTrees.isEmpty()) {
                for (int k = 0; k < kinds; k++) {
                    allTrees.add(row.isEmpty() ? new ArrayList<>() : writeTrees(k, 0, row.size() - 1));
                }
            }
            return allTrees.get(kind);
        }

        private List<Tree> writeTrees(int kind, int i, int j) {
            List<Tree> list = new ArrayList<>();
            if (i == j) {
                int s = row.get(i);
                int[] of = leaves[kind];
                int weight = s == -1 ? of[0] + of[1] + of[2] + of[3] : of[s];
                if (weight > 0) {
                    list.add(new Tree(kind, i, j, weight, null, null));
                }
                return list;
            }
            for (int m = i + 1; m <= j; m++) {
                for (int b = 0; b < kinds; b++) {
                    for (int c = 0; c < kinds; c++) {
                        joinTrees(kind, rules[kind][b][c], b, c, new int[] {i, m, j}, list);
                    }
                }
            }
            return list;
        }

        private void joinTrees(int kind, int rule, int b, int c, int[] imj, List<Tree> list) {
            if (rule == 0) {
                return;
            }
            List<Tree> rights = writeTrees(c, imj[1], imj[2]);
            for (Tree left : writeTrees(b, imj[0], imj[1] - 1)) {
                for (Tree right : rights) {
                    list.add(new Tree(kind, imj[0], imj[2], rule * left.weight * right.weight, left, right));
                }
            }
        }

        private BigInteger treeSum(int kind, int within, int i, int j) {
            BigInteger sum = BigInteger.ZERO;
            for (Tree tree : treesAbove0(kind)) {
                if (within < 0 || tree.has(within, i, j)) {
                    sum = sum.add(BigInteger.valueOf(tree.weight));
                }
            }
            return sum;
        }

        long trees(int kind) {
            return noKind(kind) ? -1 : treeSum(kind, -1, 0, 0).longValueExact();
        }

        long treeCount(int kind) {
            return noKind(kind) ? -1 : treesAbove0(kind).size();
        }

        long treeBest(int kind) {
            if (noKind(kind)) {
                return -1;
            }
            long best = -3;
            for (Tree tree : treesAbove0(kind)) {
                best = Math.max(best, tree.weight);
            }
            return best;
        }

        int treeAt(int kind, int i) {
            long best = treeBest(kind);
            if (best < 0) {
                return (int) best;
            }
            int[] first = null;
            for (Tree tree : treesAbove0(kind)) {
                if (tree.weight == best) {
                    List<Integer> told = new ArrayList<>();
                    tree.tell(told);
                    int[] numbers = told.stream().mapToInt(Integer::intValue).toArray();
                    if (first == null || Arrays.compare(numbers, first) < 0) {
                        first = numbers;
                    }
                }
            }
            return i < 0 || i >= first.length ? -1 : first[i];
        }

        long span(int kind, int within, int i, int j, int part) {
            if (noKind(kind) || noKind(within) || noPlace(i) || noPlace(j) || i > j) {
                return -1;
            }
            if (badPart(part)) {
                return -2;
            }
            return part(treeSum(kind, within, i, j), treeSum(kind, -1, 0, 0), part);
        }
    }
}
