/**
 * What lies behind rows of signs, by whole weights: ways of states over the row, and trees of rules over it.
 *
 * No call makes an object: every table is made once, with the object, and used again.
 */
public final class HiddenRows {
    private static final int UNKNOWN = -1;
    private static final int OUT_OF_BOUNDS = -2;
    private static final int NONE = -3;
    private static final int NO_ROOM = -4;

    private static final int MOST_STATES = 4;
    private static final int MOST_KINDS = 4;
    private static final int MOST_PLACES = 6;
    private static final int MOST_WEIGHT = 4;
    private static final int MOST_BEST = 10;
    private static final int SIGNS = 4;
    private static final int LONGEST_STAY = 3;

    private static final int MISSING = -1;
    private static final int NOT_HELD = -1;

    private static final int FIRST = 0;
    private static final int LAST = 1;
    private static final int STAY_ONE = 2;
    private static final int SHOW_ZERO = 5;
    private static final int WHATS = SHOW_ZERO + SIGNS;

    /** What a missing sign shows at most; no other factor is as great. */
    private static final int GREATEST_FACTOR = SIGNS * MOST_WEIGHT;

    /** A told number is 0 to 7, so that what a way tells is kept as one int, three bits for each place. */
    private static final int TOLD_BITS = 3;
    private static final int TOLD_MASK = 7;

    /** Euclid's steps for two longs are fewer than this. */
    private static final int MOST_DIVISIONS = 100;

    private final Row row;
    private final States states;
    private final WaySums sums;
    private final WaySums counts;
    private final BestWays bests;
    private final Drawing drawing;
    private final Kinds kinds;
    private final TreeTables tables;

    public HiddenRows() {
        row = new Row();
        states = new States();
        sums = new WaySums(row, states, GREATEST_FACTOR);
        counts = new WaySums(row, states, 1);
        bests = new BestWays(row, states, sums);
        drawing = new Drawing(row, states, sums);
        kinds = new Kinds();
        tables = new TreeTables(row, kinds);
    }

    public int state() {
        if (states.count >= MOST_STATES) {
            return NO_ROOM;
        }
        forgetWays();
        return states.addOne();
    }

    public int weight(int state, int what, int w) {
        if (!states.has(state) || what < 0 || what >= WHATS) {
            return UNKNOWN;
        }
        if (!isWeight(w)) {
            return OUT_OF_BOUNDS;
        }
        forgetWays();
        int was = states.weights[state][what];
        states.weights[state][what] = w;
        return was;
    }

    public int move(int from, int to, int w) {
        if (!states.has(from) || !states.has(to)) {
            return UNKNOWN;
        }
        if (!isWeight(w)) {
            return OUT_OF_BOUNDS;
        }
        forgetWays();
        int was = states.moves[from][to];
        states.moves[from][to] = w;
        return was;
    }

    public int kind() {
        if (kinds.count >= MOST_KINDS) {
            return NO_ROOM;
        }
        forgetTrees();
        kinds.count++;
        return kinds.count - 1;
    }

    public int rule(int a, int b, int c, int w) {
        if (!kinds.has(a) || !kinds.has(b) || !kinds.has(c)) {
            return UNKNOWN;
        }
        if (!isWeight(w)) {
            return OUT_OF_BOUNDS;
        }
        forgetTrees();
        int parts = Kinds.parts(b, c);
        int was = kinds.rules[a][parts];
        kinds.rules[a][parts] = w;
        return was;
    }

    public int leaf(int kind, int sign, int w) {
        if (!kinds.has(kind) || sign < 0 || sign >= SIGNS) {
            return UNKNOWN;
        }
        if (!isWeight(w)) {
            return OUT_OF_BOUNDS;
        }
        forgetTrees();
        int was = kinds.leaves[kind][sign];
        kinds.leaves[kind][sign] = w;
        return was;
    }

    public int sign(int s) {
        if (s < MISSING || s >= SIGNS) {
            return OUT_OF_BOUNDS;
        }
        if (row.length >= MOST_PLACES) {
            return NO_ROOM;
        }
        forgetWays();
        forgetTrees();
        row.append(s);
        return row.length;
    }

    public int clear() {
        forgetWays();
        forgetTrees();
        int was = row.length;
        row.length = 0;
        return was;
    }

    public int hold(int place, int state) {
        if (!row.has(place) || (state != NOT_HELD && !states.has(state))) {
            return UNKNOWN;
        }
        forgetWays();
        int was = row.held[place];
        row.held[place] = state;
        return was;
    }

    // ---- ways

    public long total() {
        return sums.whole();
    }

    public int ways() {
        return (int) counts.whole();
    }

    public long share(int place, int state, int part) {
        if (!row.has(place) || !states.has(state)) {
            return UNKNOWN;
        }
        if (!isPart(part)) {
            return OUT_OF_BOUNDS;
        }
        return lowestTerms(sums.over(place, state), sums.whole(), part);
    }

    public long begin(int place, int state, int part) {
        if (!row.has(place) || !states.has(state)) {
            return UNKNOWN;
        }
        if (!isPart(part)) {
            return OUT_OF_BOUNDS;
        }
        return lowestTerms(sums.beginning(place, state), sums.whole(), part);
    }

    public long pair(int place, int from, int to, int part) {
        if (!row.has(place) || place >= row.length - 1 || !states.has(from) || !states.has(to)) {
            return UNKNOWN;
        }
        if (!isPart(part)) {
            return OUT_OF_BOUNDS;
        }
        return lowestTerms(sums.moving(place + 1, from, to), sums.whole(), part);
    }

    public int top(int place) {
        if (!row.has(place)) {
            return UNKNOWN;
        }
        if (sums.whole() <= 0) {
            return NONE;
        }
        int greatest = 0;
        for (int state = 1; state < states.count; state++) {
            if (sums.over(place, state) > sums.over(place, greatest)) {
                greatest = state;
            }
        }
        return greatest;
    }

    public long best(int k) {
        if (k < 0 || k >= MOST_BEST) {
            return OUT_OF_BOUNDS;
        }
        WayList list = bests.list();
        return k < list.size ? list.weights[k] : NONE;
    }

    public int bestAt(int k, int place) {
        if (k < 0 || k >= MOST_BEST) {
            return OUT_OF_BOUNDS;
        }
        WayList list = bests.list();
        if (k >= list.size) {
            return NONE;
        }
        return row.has(place) ? row.toldAt(list.told[k], place) : UNKNOWN;
    }

    public long drawn(int seed) {
        long total = sums.whole();
        if (total <= 0) {
            return NONE;
        }
        return drawing.draw(Drawing.spread(seed) % total);
    }

    public int drawnAt(int place) {
        if (!drawing.known) {
            return NONE;
        }
        return row.has(place) ? row.toldAt(drawing.told, place) : UNKNOWN;
    }

    // ---- trees

    public long trees(int kind) {
        return kinds.has(kind) ? tables.sumOfAll(kind) : UNKNOWN;
    }

    public long treeCount(int kind) {
        return kinds.has(kind) ? tables.countOfAll(kind) : UNKNOWN;
    }

    public long treeBest(int kind) {
        if (!kinds.has(kind)) {
            return UNKNOWN;
        }
        return tables.sumOfAll(kind) > 0 ? tables.bestOfAll(kind) : NONE;
    }

    public int treeAt(int kind, int i) {
        if (!kinds.has(kind)) {
            return UNKNOWN;
        }
        if (tables.sumOfAll(kind) <= 0) {
            return NONE;
        }
        if (i < 0 || i >= 2 * row.length - 1) {
            return UNKNOWN;
        }
        return tables.bestTells(kind, i);
    }

    public long span(int kind, int within, int i, int j, int part) {
        if (!kinds.has(kind) || !kinds.has(within) || !row.has(i) || !row.has(j) || i > j) {
            return UNKNOWN;
        }
        if (!isPart(part)) {
            return OUT_OF_BOUNDS;
        }
        return lowestTerms(tables.sumWith(kind, within, i, j), tables.sumOfAll(kind), part);
    }

    private void forgetWays() {
        sums.known = false;
        counts.known = false;
        bests.known = false;
        drawing.known = false;
    }

    private void forgetTrees() {
        tables.known = false;
    }

    private static boolean isWeight(int w) {
        return w >= 0 && w <= MOST_WEIGHT;
    }

    private static boolean isPart(int part) {
        return part == 0 || part == 1;
    }

    private static long lowestTerms(long above, long below, int part) {
        if (below <= 0) {
            return NONE;
        }
        long common = commonDivisor(above, below);
        if (common <= 0) {
            return NONE;
        }
        return part == 0 ? above / common : below / common;
    }

    private static long commonDivisor(long a, long b) {
        long greater = a;
        long lesser = b;
        for (int i = 0; i < MOST_DIVISIONS && lesser != 0; i++) {
            long rest = greater % lesser;
            greater = lesser;
            lesser = rest;
        }
        return greater;
    }

    /** The signs of the row, and for which states its places are held. */
    private static final class Row {
        final int[] signs = new int[MOST_PLACES];
        final int[] held = new int[MOST_PLACES];
        int length = 0;

        boolean has(int place) {
            return place >= 0 && place < length && place < MOST_PLACES;
        }

        void append(int s) {
            if (length >= MOST_PLACES) {
                return;
            }
            signs[length] = s;
            held[length] = NOT_HELD;
            length++;
        }

        int toldAt(int told, int place) {
            return (told >> (TOLD_BITS * (length - 1 - place))) & TOLD_MASK;
        }
    }

    /** The states with their weights. */
    private static final class States {
        final int[][] weights = new int[MOST_STATES][WHATS];
        final int[][] moves = new int[MOST_STATES][MOST_STATES];
        int count = 0;

        boolean has(int state) {
            return state >= 0 && state < count && state < MOST_STATES;
        }

        int addOne() {
            if (count >= MOST_STATES) {
                return NO_ROOM;
            }
            weights[count][FIRST] = 1;
            weights[count][LAST] = 1;
            weights[count][STAY_ONE] = 1;
            count++;
            return count - 1;
        }
    }

    /**
     * Sums over ways, put together at each place from those over what lies before it and what comes from it on.
     * With each factor cut down to 1 the same sums count the ways.
     */
    private static final class WaySums {
        private final Row row;
        private final States states;
        private final int most;
        /** Of a place and a state: the factor of the place's sign. */
        private final long[][] shown = new long[MOST_PLACES][MOST_STATES];
        /** All from a place on, if a segment of the state begins there. */
        final long[][] from = new long[MOST_PLACES][MOST_STATES];
        /** All from a place on, if a segment of the state has ended just before it, the move included. */
        final long[][] leaving = new long[MOST_PLACES + 1][MOST_STATES];
        /** All before a place, if the segment that ends there is of the state. */
        private final long[][] upTo = new long[MOST_PLACES + 1][MOST_STATES];
        /** All before a place, if a segment of the state begins there, the move included. */
        private final long[][] entering = new long[MOST_PLACES][MOST_STATES];
        boolean known = false;

        WaySums(Row row, States states, int most) {
            this.row = row;
            this.states = states;
            this.most = most;
        }

        /** The sum over all ways. */
        long whole() {
            refresh();
            long sum = 0;
            if (row.length > 0) {
                for (int state = 0; state < states.count; state++) {
                    sum += entering[0][state] * from[0][state];
                }
            }
            return sum;
        }

        /** The sum over those in which the place is of the state. */
        long over(int place, int state) {
            refresh();
            long sum = 0;
            for (int begin = Math.max(0, place - LONGEST_STAY + 1); begin <= place; begin++) {
                sum += entering[begin][state] * longerThan(place - begin, begin, state);
            }
            return sum;
        }

        /** The sum over those in which a segment of the state begins at the place. */
        long beginning(int place, int state) {
            refresh();
            return entering[place][state] * from[place][state];
        }

        /** The sum over those in which a segment of one state ends before the place and one of another begins there. */
        long moving(int place, int before, int after) {
            refresh();
            return upTo[place][before] * cut(states.moves[before][after]) * from[place][after];
        }

        /** All from the beginning of a segment on that has more than so many places. */
        long longerThan(int places, int begin, int state) {
            long sum = 0;
            for (int stay = places + 1; stay <= LONGEST_STAY && begin + stay <= row.length; stay++) {
                sum += segment(begin, stay, state) * leaving[begin + stay][state];
            }
            return sum;
        }

        /** The factor of one segment: of its stay and of what its places show. */
        long segment(int begin, int places, int state) {
            long product = cut(states.weights[state][STAY_ONE + places - 1]);
            for (int place = begin; place < begin + places; place++) {
                product *= shown[place][state];
            }
            return product;
        }

        void refresh() {
            if (known) {
                return;
            }
            known = true;
            showPlaces();
            sumFromBehind();
            sumFromAhead();
        }

        private void showPlaces() {
            for (int place = 0; place < row.length; place++) {
                for (int state = 0; state < states.count; state++) {
                    shown[place][state] = showOf(place, state);
                }
            }
        }

        private long showOf(int place, int state) {
            int held = row.held[place];
            if (held != NOT_HELD && held != state) {
                return 0;
            }
            int sign = row.signs[place];
            if (sign != MISSING) {
                return cut(states.weights[state][SHOW_ZERO + sign]);
            }
            int sum = 0;
            for (int each = 0; each < SIGNS; each++) {
                sum += states.weights[state][SHOW_ZERO + each];
            }
            return cut(sum);
        }

        private void sumFromBehind() {
            for (int state = 0; state < states.count; state++) {
                leaving[row.length][state] = cut(states.weights[state][LAST]);
            }
            for (int place = row.length - 1; place >= 0; place--) {
                for (int state = 0; state < states.count; state++) {
                    from[place][state] = longerThan(0, place, state);
                }
                for (int state = 0; state < states.count; state++) {
                    leaving[place][state] = movedOutOf(place, state);
                }
            }
        }

        private long movedOutOf(int place, int state) {
            long sum = 0;
            for (int next = 0; next < states.count; next++) {
                sum += cut(states.moves[state][next]) * from[place][next];
            }
            return sum;
        }

        private void sumFromAhead() {
            for (int place = 0; place < row.length; place++) {
                for (int state = 0; state < states.count; state++) {
                    entering[place][state] = place == 0 ? cut(states.weights[state][FIRST]) : movedInto(place, state);
                }
                for (int state = 0; state < states.count; state++) {
                    upTo[place + 1][state] = endedBefore(place + 1, state);
                }
            }
        }

        private long movedInto(int place, int state) {
            long sum = 0;
            for (int former = 0; former < states.count; former++) {
                sum += upTo[place][former] * cut(states.moves[former][state]);
            }
            return sum;
        }

        private long endedBefore(int end, int state) {
            long sum = 0;
            for (int stay = 1; stay <= LONGEST_STAY && stay <= end; stay++) {
                sum += entering[end - stay][state] * segment(end - stay, stay, state);
            }
            return sum;
        }

        private long cut(int factor) {
            return factor < most ? factor : most;
        }
    }

    /** Up to ten ways, or ends of ways over the same places: the best first. */
    private static final class WayList {
        final long[] weights = new long[MOST_BEST];
        final int[] told = new int[MOST_BEST];
        int size = 0;

        /** Answers whether it has been taken in. */
        boolean offer(long weight, int tells) {
            if (weight <= 0) {
                return false;
            }
            int at = size;
            while (at > 0 && isBetter(weight, tells, at - 1)) {
                at--;
            }
            if (at >= MOST_BEST) {
                return false;
            }
            size = Math.min(size + 1, MOST_BEST);
            for (int i = size - 1; i > at; i--) {
                weights[i] = weights[i - 1];
                told[i] = told[i - 1];
            }
            weights[at] = weight;
            told[at] = tells;
            return true;
        }

        private boolean isBetter(long weight, int tells, int than) {
            return weight > weights[than] || (weight == weights[than] && tells < told[than]);
        }
    }

    /**
     * The best ways. Whatever leads to a segment weighs the same for all that may come from its beginning on,
     * so the ten best ends from there are all that the ten best ways can need.
     */
    private static final class BestWays {
        private final Row row;
        private final States states;
        private final WaySums sums;
        private final WayList[] ends = new WayList[MOST_PLACES * MOST_STATES];
        private final WayList whole = new WayList();
        boolean known = false;

        BestWays(Row row, States states, WaySums sums) {
            this.row = row;
            this.states = states;
            this.sums = sums;
            for (int i = 0; i < MOST_PLACES * MOST_STATES; i++) {
                ends[i] = new WayList();
            }
        }

        WayList list() {
            if (!known) {
                known = true;
                sums.refresh();
                for (int place = row.length - 1; place >= 0; place--) {
                    for (int state = 0; state < states.count; state++) {
                        listEnds(place, state);
                    }
                }
                listWhole();
            }
            return whole;
        }

        private void listWhole() {
            whole.size = 0;
            if (row.length > 0) {
                for (int state = 0; state < states.count; state++) {
                    offerAll(whole, states.weights[state][FIRST], 0, endsFrom(0, state));
                }
            }
        }

        private void listEnds(int place, int state) {
            WayList list = endsFrom(place, state);
            list.size = 0;
            int told = 2 * state;
            for (int stay = 1; stay <= LONGEST_STAY && place + stay <= row.length; stay++) {
                long weight = sums.segment(place, stay, state);
                if (place + stay == row.length) {
                    list.offer(weight * states.weights[state][LAST], told);
                } else {
                    offerMoves(list, weight, told, place + stay, state);
                }
                told = (told << TOLD_BITS) | (2 * state + 1);
            }
        }

        private void offerMoves(WayList list, long weight, int told, int place, int state) {
            int head = told << (TOLD_BITS * (row.length - place));
            for (int next = 0; next < states.count; next++) {
                offerAll(list, weight * states.moves[state][next], head, endsFrom(place, next));
            }
        }

        /** The rest has its best first, so when one is not taken in, none behind it would be. */
        private static void offerAll(WayList list, long weight, int head, WayList rest) {
            for (int i = 0; i < rest.size; i++) {
                if (!list.offer(weight * rest.weights[i], head | rest.told[i])) {
                    return;
                }
            }
        }

        private WayList endsFrom(int place, int state) {
            return ends[place * MOST_STATES + state];
        }
    }

    /** Draws a way: at each place it goes past the sums of all that is told less there, until one reaches beyond. */
    private static final class Drawing {
        private static final long TWO_TO_31 = 2147483648L;
        private static final int FACTOR = 1664525;
        private static final int ADDEND = 1013904223;

        private final Row row;
        private final States states;
        private final WaySums sums;
        /** The weight of what is told so far, but for the segment that is still open. */
        private long closed = 1;
        private int openState = 0;
        private int openBegin = 0;
        /** The factor of the open segment, if it ends before the place that is next. */
        private long ending = 1;
        int told = 0;
        boolean known = false;

        Drawing(Row row, States states, WaySums sums) {
            this.row = row;
            this.states = states;
            this.sums = sums;
        }

        static long spread(int seed) {
            int first = seed * FACTOR + ADDEND;
            int second = first * FACTOR + ADDEND;
            return TWO_TO_31 * (first >>> 1) + (second >>> 1);
        }

        long draw(long u) {
            sums.refresh();
            known = true;
            told = 0;
            closed = 1;
            openState = 0;
            openBegin = 0;
            long rest = u;
            for (int place = 0; place < row.length; place++) {
                ending = openSegment(place);
                rest = tellPlace(place, rest);
            }
            return closed * openSegment(row.length) * states.weights[openState][LAST];
        }

        /** Answers how much of the rest lies within what is told. */
        private long tellPlace(int place, long rest) {
            long left = rest;
            for (int number = 0; number < 2 * states.count; number++) {
                long sum = sumTelling(place, number);
                if (left < sum) {
                    take(place, number);
                    return left;
                }
                left -= sum;
            }
            return left;
        }

        private long sumTelling(int place, int number) {
            int state = number / 2;
            if (number % 2 == 0) {
                return closed * closing(place, state) * sums.from[place][state];
            }
            if (place == 0 || state != openState) {
                return 0;
            }
            return closed * sums.longerThan(place - openBegin, openBegin, state);
        }

        private void take(int place, int number) {
            told = (told << TOLD_BITS) | number;
            if (number % 2 == 0) {
                closed *= closing(place, number / 2);
                openState = number / 2;
                openBegin = place;
            }
        }

        /** The factor by which the open segment ends before the place and one of the next state begins there. */
        private long closing(int place, int next) {
            if (place == 0) {
                return states.weights[next][FIRST];
            }
            return ending * states.moves[openState][next];
        }

        private long openSegment(int end) {
            int places = end - openBegin;
            return places >= 1 && places <= LONGEST_STAY ? sums.segment(openBegin, places, openState) : 0;
        }
    }

    /** The kinds with their rules and leaves. */
    private static final class Kinds {
        final int[][] rules = new int[MOST_KINDS][MOST_KINDS * MOST_KINDS];
        final int[][] leaves = new int[MOST_KINDS][SIGNS];
        int count = 0;

        boolean has(int kind) {
            return kind >= 0 && kind < count && kind < MOST_KINDS;
        }

        static int parts(int b, int c) {
            return b * MOST_KINDS + c;
        }

        int leafOf(int kind, int sign) {
            if (sign != MISSING) {
                return leaves[kind][sign];
            }
            int sum = 0;
            for (int each = 0; each < SIGNS; each++) {
                sum += leaves[kind][each];
            }
            return sum;
        }
    }

    /** Of each kind and each span of places: the sum, the count and the best of its trees. */
    private static final class TreeTables {
        private static final int SPANS = MOST_PLACES * MOST_PLACES;

        private final Row row;
        private final Kinds kinds;
        private final long[][] sum = new long[MOST_KINDS][SPANS];
        private final long[][] count = new long[MOST_KINDS][SPANS];
        private final long[][] best = new long[MOST_KINDS][SPANS];
        /** The sum over those trees alone that have the asked one within. */
        private final long[][] having = new long[MOST_KINDS][SPANS];
        /** Parts of the best tree that are still to be told, the next one on top. */
        private final int[] waitingKinds = new int[MOST_PLACES + 1];
        private final int[] waitingSpans = new int[MOST_PLACES + 1];
        private int waiting = 0;
        boolean known = false;

        TreeTables(Row row, Kinds kinds) {
            this.row = row;
            this.kinds = kinds;
        }

        long sumOfAll(int kind) {
            refresh();
            return row.length > 0 ? sum[kind][spanOf(0, row.length - 1)] : 0;
        }

        long countOfAll(int kind) {
            refresh();
            return row.length > 0 ? count[kind][spanOf(0, row.length - 1)] : 0;
        }

        long bestOfAll(int kind) {
            refresh();
            return row.length > 0 ? best[kind][spanOf(0, row.length - 1)] : 0;
        }

        private static int spanOf(int i, int j) {
            return i * MOST_PLACES + j;
        }

        private void refresh() {
            if (known) {
                return;
            }
            known = true;
            for (int places = 1; places <= row.length; places++) {
                for (int i = 0; i + places <= row.length; i++) {
                    for (int kind = 0; kind < kinds.count; kind++) {
                        fill(kind, i, i + places - 1);
                    }
                }
            }
        }

        private void fill(int kind, int i, int j) {
            int span = spanOf(i, j);
            long leaf = i == j ? kinds.leafOf(kind, row.signs[i]) : 0;
            sum[kind][span] = leaf;
            count[kind][span] = Math.min(leaf, 1);
            best[kind][span] = leaf;
            for (int m = i + 1; m <= j; m++) {
                addSplit(kind, span, spanOf(i, m - 1), spanOf(m, j));
            }
        }

        private void addSplit(int kind, int span, int left, int right) {
            for (int b = 0; b < kinds.count; b++) {
                for (int c = 0; c < kinds.count; c++) {
                    long rule = kinds.rules[kind][Kinds.parts(b, c)];
                    if (rule > 0) {
                        sum[kind][span] += rule * sum[b][left] * sum[c][right];
                        count[kind][span] += count[b][left] * count[c][right];
                        best[kind][span] = Math.max(best[kind][span], rule * best[b][left] * best[c][right]);
                    }
                }
            }
        }

        /** What the best tree tells as its number-th: the parts before it are gone through in their order. */
        int bestTells(int kind, int number) {
            refresh();
            waiting = 0;
            push(kind, spanOf(0, row.length - 1));
            int told = UNKNOWN;
            for (int i = 0; i <= number && waiting > 0; i++) {
                waiting--;
                told = tellNode(waitingKinds[waiting], waitingSpans[waiting]);
            }
            return told;
        }

        private void push(int kind, int span) {
            if (waiting <= MOST_PLACES) {
                waitingKinds[waiting] = kind;
                waitingSpans[waiting] = span;
                waiting++;
            }
        }

        private int tellNode(int kind, int span) {
            int i = span / MOST_PLACES;
            int j = span % MOST_PLACES;
            for (int m = i + 1; m <= j; m++) {
                int left = spanOf(i, m - 1);
                int right = spanOf(m, j);
                int parts = bestParts(kind, span, left, right);
                if (parts >= 0) {
                    int b = parts / MOST_KINDS;
                    int c = parts % MOST_KINDS;
                    push(c, right);
                    push(b, left);
                    return 100 * m + 10 * b + c;
                }
            }
            return 0;
        }

        /** The first two parts that make the best tree over the span, split so; -1 if it is not split so. */
        private int bestParts(int kind, int span, int left, int right) {
            for (int b = 0; b < kinds.count; b++) {
                for (int c = 0; c < kinds.count; c++) {
                    long rule = kinds.rules[kind][Kinds.parts(b, c)];
                    if (rule * best[b][left] * best[c][right] == best[kind][span]) {
                        return Kinds.parts(b, c);
                    }
                }
            }
            return -1;
        }

        /** The sum over the trees of a kind that have one of the kind within over just the places i .. j. */
        long sumWith(int kind, int within, int i, int j) {
            refresh();
            for (int a = i; a >= 0; a--) {
                for (int b = j; b < row.length; b++) {
                    for (int each = 0; each < kinds.count; each++) {
                        having[each][spanOf(a, b)] = 0;
                    }
                    if (a == i && b == j) {
                        having[within][spanOf(i, j)] = sum[within][spanOf(i, j)];
                    } else {
                        addAround(a, b, i, j);
                    }
                }
            }
            return row.length > 0 ? having[kind][spanOf(0, row.length - 1)] : 0;
        }

        /** A split between i and j would tear the asked tree, so only those beside it count. */
        private void addAround(int a, int b, int i, int j) {
            for (int m = a + 1; m <= i; m++) {
                addProducts(spanOf(a, b), sum, spanOf(a, m - 1), having, spanOf(m, b));
            }
            for (int m = j + 1; m <= b; m++) {
                addProducts(spanOf(a, b), having, spanOf(a, m - 1), sum, spanOf(m, b));
            }
        }

        private void addProducts(int span, long[][] first, int left, long[][] second, int right) {
            for (int kind = 0; kind < kinds.count; kind++) {
                for (int b = 0; b < kinds.count; b++) {
                    for (int c = 0; c < kinds.count; c++) {
                        long rule = kinds.rules[kind][Kinds.parts(b, c)];
                        having[kind][span] += rule * first[b][left] * second[c][right];
                    }
                }
            }
        }
    }
}
