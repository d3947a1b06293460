/** Each promise of the document, by answers worked out by hand. */
public final class PromisesTest {
    private static final int LOW = Integer.MIN_VALUE;
    private static final int HIGH = Integer.MAX_VALUE;
    private static int wrong = 0;

    private static void due(String call, long got, long want) {
        if (got != want) {
            wrong++;
            System.out.println(call + " answered " + got + ", due is " + want);
        }
    }

    private static void dueRatio(String call, long above, long below, long wantAbove, long wantBelow) {
        due(call + " above", above, wantAbove);
        due(call + " below", below, wantBelow);
    }

    public static void main(String[] args) {
        promise01NewObject();
        promise02State();
        promise03Weight();
        promise03WhatEachWeightIsFor();
        promise04Move();
        promise05Kind();
        promise06Rule();
        promise07Leaf();
        promise08Sign();
        promise09Clear();
        promise10Hold();
        promise11Total();
        promise12Ways();
        promise13Share();
        promise14Begin();
        promise15Pair();
        promise16Top();
        promise17Best();
        promise18BestAt();
        promise19Drawn();
        promise20DrawnAt();
        promise20WhatForgetsTheDrawn();
        promise21Trees();
        promise22TreeCount();
        promise23TreeBest();
        promise24TreeAt();
        promise25Span();
        greatestNumbers();
        System.out.println(wrong == 0 ? "all promises hold" : wrong + " answers are not as due");
        if (wrong != 0) {
            System.exit(1);
        }
    }

    private static void promise01NewObject() {
        due("new, the first call: drawnAt", new HiddenRows().drawnAt(0), -3);
        due("new, the first call: total", new HiddenRows().total(), 0);
        due("new, the first call: best", new HiddenRows().best(0), -3);
        due("new, the first call: drawn", new HiddenRows().drawn(0), -3);
        HiddenRows x = new HiddenRows();
        due("new: clear", x.clear(), 0);
        due("new: total", x.total(), 0);
        due("new: ways", x.ways(), 0);
        due("new: weight", x.weight(0, 0, 1), -1);
        due("new: move", x.move(0, 0, 1), -1);
        due("new: rule", x.rule(0, 0, 0, 1), -1);
        due("new: leaf", x.leaf(0, 0, 1), -1);
        due("new: hold", x.hold(0, -1), -1);
        due("new: trees", x.trees(0), -1);
        due("new: drawnAt", x.drawnAt(0), -3);
        due("new: top", x.top(0), -1);
        due("new: state", x.state(), 0);
        due("new: kind", x.kind(), 0);
        due("new: sign", x.sign(3), 1);
    }

    private static void promise02State() {
        HiddenRows x = new HiddenRows();
        for (int s = 0; s < 4; s++) {
            due("state", x.state(), s);
        }
        due("a fifth state", x.state(), -4);
        due("a fifth state again", x.state(), -4);
        due("no state 4", x.weight(4, 0, 1), -1);
        for (int s = 0; s < 4; s++) {
            for (int what = 0; what < 9; what++) {
                due("weight at first", x.weight(s, what, 0), what < 3 ? 1 : 0);
            }
            for (int to = 0; to < 4; to++) {
                due("move at first", x.move(s, to, 0), 0);
            }
        }
    }

    private static void promise03Weight() {
        HiddenRows x = new HiddenRows();
        x.state();
        due("first weight", x.weight(0, 0, 4), 1);
        due("what it was", x.weight(0, 0, 0), 4);
        due("what it was then", x.weight(0, 0, 3), 0);
        due("state -1", x.weight(-1, 0, 1), -1);
        due("state 1", x.weight(1, 0, 1), -1);
        due("state low", x.weight(LOW, 0, 1), -1);
        due("state high", x.weight(HIGH, 0, 1), -1);
        due("what -1", x.weight(0, -1, 1), -1);
        due("what 9", x.weight(0, 9, 1), -1);
        due("what high", x.weight(0, HIGH, 1), -1);
        due("w 5", x.weight(0, 0, 5), -2);
        due("w -1", x.weight(0, 0, -1), -2);
        due("w low", x.weight(0, 0, LOW), -2);
        due("state before w", x.weight(1, 0, 5), -1);
        due("what before w", x.weight(0, 9, -1), -1);
        due("refusals change nothing", x.weight(0, 0, 3), 3);
    }

    private static void promise03WhatEachWeightIsFor() {
        HiddenRows x = Examples.oneState(1);
        x.weight(0, 0, 2);
        x.weight(0, 1, 3);
        x.weight(0, 2, 4);
        due("first, last, stay 1", x.total(), 24);
        x.sign(0);
        x.weight(0, 3, 1);
        due("two of one place, one of two", x.total(), 6 * (16 + 1));
        x.sign(0);
        x.weight(0, 4, 3);
        due("stays of 1, 2, 3", x.total(), 6 * (64 + 4 + 4 + 3));
        for (int s = 0; s < 4; s++) {
            HiddenRows y = Examples.oneState(0);
            y.weight(0, 5, 0);
            y.weight(0, 5 + s, 3);
            y.sign(s);
            due("show of sign " + s, y.total(), 3);
            y.clear();
            y.sign((s + 1) % 4);
            due("show of another than sign " + s, y.total(), 0);
        }
    }

    private static void promise04Move() {
        HiddenRows x = new HiddenRows();
        x.state();
        x.state();
        due("move at first", x.move(0, 1, 4), 0);
        due("the other way round", x.move(1, 0, 2), 0);
        due("what it was", x.move(0, 1, 0), 4);
        due("of the same", x.move(1, 1, 1), 0);
        due("from 2", x.move(2, 0, 1), -1);
        due("to 2", x.move(0, 2, 1), -1);
        due("from -1", x.move(-1, 0, 1), -1);
        due("to -1", x.move(0, -1, 1), -1);
        due("to high", x.move(0, HIGH, 1), -1);
        due("w 5", x.move(0, 1, 5), -2);
        due("w -1", x.move(0, 1, -1), -2);
        due("states before w", x.move(0, 2, 5), -1);
        due("refusals change nothing", x.move(0, 1, 3), 0);
    }

    private static void promise05Kind() {
        HiddenRows x = new HiddenRows();
        for (int k = 0; k < 4; k++) {
            due("no kind yet", x.leaf(k, 0, 1), -1);
            due("kind", x.kind(), k);
            due("leaf at first", x.leaf(k, 0, 1), 0);
            due("rule at first", x.rule(k, k, 0, 1), 0);
        }
        due("a fifth kind", x.kind(), -4);
        due("no kind 4", x.leaf(4, 0, 1), -1);
    }

    private static void promise06Rule() {
        HiddenRows x = new HiddenRows();
        x.kind();
        x.kind();
        due("rule at first", x.rule(0, 0, 1, 4), 0);
        due("parts the other way round", x.rule(0, 1, 0, 3), 0);
        due("of the other kind", x.rule(1, 0, 1, 2), 0);
        due("what it was", x.rule(0, 0, 1, 0), 4);
        due("what the turned one was", x.rule(0, 1, 0, 0), 3);
        due("a 2", x.rule(2, 0, 0, 1), -1);
        due("b 2", x.rule(0, 2, 0, 1), -1);
        due("c 2", x.rule(0, 0, 2, 1), -1);
        due("a -1", x.rule(-1, 0, 0, 1), -1);
        due("b -1", x.rule(0, -1, 0, 1), -1);
        due("c -1", x.rule(0, 0, -1, 1), -1);
        due("w 5", x.rule(1, 0, 1, 5), -2);
        due("w -1", x.rule(1, 0, 1, -1), -2);
        due("kinds before w", x.rule(0, 0, 2, 5), -1);
        due("refusals change nothing", x.rule(1, 0, 1, 1), 2);
    }

    private static void promise07Leaf() {
        HiddenRows x = new HiddenRows();
        x.kind();
        x.kind();
        for (int s = 0; s < 4; s++) {
            due("leaf at first", x.leaf(1, s, s + 1), 0);
        }
        for (int s = 0; s < 4; s++) {
            due("leaf of another kind", x.leaf(0, s, 0), 0);
            due("what it was", x.leaf(1, s, 4 - s), s + 1);
        }
        due("kind 2", x.leaf(2, 0, 1), -1);
        due("kind -1", x.leaf(-1, 0, 1), -1);
        due("sign 4", x.leaf(1, 4, 1), -1);
        due("sign -1", x.leaf(1, -1, 1), -1);
        due("w 5", x.leaf(1, 0, 5), -2);
        due("w -1", x.leaf(1, 0, -1), -2);
        due("sign before w", x.leaf(1, 4, 5), -1);
        due("refusals change nothing", x.leaf(1, 0, 1), 4);
    }

    private static void promise08Sign() {
        HiddenRows x = new HiddenRows();
        for (int n = 1; n <= 6; n++) {
            due("sign 4", x.sign(4), -2);
            due("sign -2", x.sign(-2), -2);
            due("sign", x.sign(n % 5 - 1), n);
        }
        due("a seventh sign", x.sign(0), -4);
        due("a seventh missing sign", x.sign(-1), -4);
        due("bounds before room", x.sign(4), -2);
        due("bounds before room, low", x.sign(LOW), -2);
        due("six there are", x.clear(), 6);
        HiddenRows y = Examples.oneState(1);
        y.hold(0, 0);
        y.clear();
        y.sign(0);
        due("not held by this", y.hold(0, -1), -1);
        y.sign(1);
        due("the sign counts", y.total(), 0);
    }

    private static void promise09Clear() {
        HiddenRows x = Examples.twoStates();
        due("clear", x.clear(), 2);
        due("clear again", x.clear(), 0);
        due("no way", x.total(), 0);
        due("no ways", x.ways(), 0);
        due("no best", x.best(0), -3);
        due("no draw", x.drawn(1), -3);
        due("no place", x.top(0), -1);
        due("the states stay", x.weight(0, 5, 2), 2);
        x.sign(1);
        due("a new row", x.total(), 1 + 3);
        HiddenRows y = Examples.twoKinds();
        y.clear();
        due("no tree", y.trees(0), 0);
        due("no best tree", y.treeBest(0), -3);
        y.sign(1);
        due("a new row of trees", y.trees(0), 4);
    }

    private static void promise10Hold() {
        HiddenRows x = Examples.twoStates();
        due("hold", x.hold(1, 0), -1);
        due("held ways alone", x.total(), 7);
        due("held for another", x.hold(1, 1), 0);
        due("held ways alone, another", x.total(), 12);
        due("both places", x.hold(0, 1), -1);
        due("no way", x.total(), 0);
        due("let go", x.hold(0, -1), 1);
        due("let go again", x.hold(0, -1), -1);
        due("place 2", x.hold(2, 0), -1);
        due("place -1", x.hold(-1, 0), -1);
        due("state 2", x.hold(1, 2), -1);
        due("state -2", x.hold(1, -2), -1);
        due("state low", x.hold(1, LOW), -1);
        due("refusals change nothing", x.hold(1, -1), 1);
        due("all ways again", x.total(), 19);
        HiddenRows y = Examples.twoKinds();
        y.state();
        y.hold(0, 0);
        due("trees do not mind", y.trees(0), 52);
    }

    private static void promise11Total() {
        due("two states", Examples.twoStates().total(), 19);
        due("one state, one place", Examples.oneState(1).total(), 1);
        due("one state, six places", Examples.oneState(6).total(), 1);
        HiddenRows x = Examples.twoStates();
        x.move(0, 0, 4);
        due("a move more", x.total(), 19 + 2 * 4);
        HiddenRows missing = Examples.oneState(0);
        missing.weight(0, 6, 2);
        missing.weight(0, 7, 3);
        missing.weight(0, 8, 4);
        missing.sign(-1);
        due("a missing sign", missing.total(), 10);
        HiddenRows stays = Examples.oneState(4);
        stays.weight(0, 2, 0);
        stays.weight(0, 4, 1);
        due("nothing stays four places", stays.total(), 0);
    }

    private static void promise12Ways() {
        due("two states", Examples.twoStates().ways(), 3);
        HiddenRows x = Examples.oneState(6);
        due("all of one place", x.ways(), 1);
        x.weight(0, 3, 4);
        due("of one and two places", x.ways(), 13);
        x.weight(0, 4, 4);
        due("of one to three places", x.ways(), 24);
        x.hold(3, 0);
        due("held for the same", x.ways(), 24);
        x.weight(0, 0, 0);
        due("none is first", x.ways(), 0);
        HiddenRows missing = Examples.oneState(1);
        missing.weight(0, 6, 3);
        missing.clear();
        missing.sign(-1);
        due("a missing sign is one way", missing.ways(), 1);
    }

    private static void promise13Share() {
        HiddenRows x = Examples.twoStates();
        dueRatio("share(0, 0)", x.share(0, 0, 0), x.share(0, 0, 1), 18, 19);
        dueRatio("share(0, 1)", x.share(0, 1, 0), x.share(0, 1, 1), 1, 19);
        dueRatio("share(1, 0)", x.share(1, 0, 0), x.share(1, 0, 1), 7, 19);
        dueRatio("share(1, 1)", x.share(1, 1, 0), x.share(1, 1, 1), 12, 19);
        HiddenRows tied = Examples.twoStatesTied();
        dueRatio("in lowest terms", tied.share(1, 0, 0), tied.share(1, 0, 1), 7, 13);
        tied.hold(0, 0);
        dueRatio("0 is 0 / 1", tied.share(0, 1, 0), tied.share(0, 1, 1), 0, 1);
        dueRatio("all is 1 / 1", tied.share(0, 0, 0), tied.share(0, 0, 1), 1, 1);
        due("place 2", x.share(2, 0, 0), -1);
        due("place -1", x.share(-1, 0, 0), -1);
        due("place high", x.share(HIGH, 0, 0), -1);
        due("state 2", x.share(0, 2, 0), -1);
        due("state -1", x.share(0, -1, 0), -1);
        due("part 2", x.share(0, 0, 2), -2);
        due("part -1", x.share(0, 0, -1), -2);
        due("state before part", x.share(0, 2, 2), -1);
        x.sign(2);
        due("no way", x.share(0, 0, 0), -3);
        due("no way, below", x.share(0, 0, 1), -3);
        due("part before none", x.share(0, 0, 2), -2);
        due("place before none", x.share(3, 0, 0), -1);
    }

    private static void promise14Begin() {
        HiddenRows x = Examples.twoStates();
        dueRatio("begin(0, 0)", x.begin(0, 0, 0), x.begin(0, 0, 1), 18, 19);
        dueRatio("begin(1, 0)", x.begin(1, 0, 0), x.begin(1, 0, 1), 1, 19);
        dueRatio("begin(1, 1)", x.begin(1, 1, 0), x.begin(1, 1, 1), 12, 19);
        HiddenRows tied = Examples.twoStatesTied();
        dueRatio("in lowest terms", tied.begin(1, 0, 0), tied.begin(1, 0, 1), 1, 13);
        due("place 2", x.begin(2, 0, 0), -1);
        due("place -1", x.begin(-1, 0, 0), -1);
        due("state 2", x.begin(0, 2, 0), -1);
        due("state -1", x.begin(0, -1, 0), -1);
        due("part 2", x.begin(0, 0, 2), -2);
        due("part -1", x.begin(0, 0, -1), -2);
        due("place before part", x.begin(2, 0, 2), -1);
        x.sign(2);
        due("no way", x.begin(0, 0, 0), -3);
        due("part before none", x.begin(0, 0, 5), -2);
    }

    private static void promise15Pair() {
        HiddenRows x = Examples.twoStates();
        dueRatio("pair(0, 0, 1)", x.pair(0, 0, 1, 0), x.pair(0, 0, 1, 1), 12, 19);
        dueRatio("pair(0, 1, 0)", x.pair(0, 1, 0, 0), x.pair(0, 1, 0, 1), 1, 19);
        dueRatio("going on is no pair", x.pair(0, 0, 0, 0), x.pair(0, 0, 0, 1), 0, 1);
        HiddenRows tied = Examples.twoStatesTied();
        dueRatio("in lowest terms", tied.pair(0, 0, 1, 0), tied.pair(0, 0, 1, 1), 6, 13);
        HiddenRows same = Examples.oneState(2);
        same.weight(0, 3, 3);
        dueRatio("of the same", same.pair(0, 0, 0, 0), same.pair(0, 0, 0, 1), 1, 4);
        due("the last place", x.pair(1, 0, 1, 0), -1);
        due("place 2", x.pair(2, 0, 1, 0), -1);
        due("place -1", x.pair(-1, 0, 1, 0), -1);
        due("place high", x.pair(HIGH, 0, 1, 0), -1);
        due("from 2", x.pair(0, 2, 1, 0), -1);
        due("to 2", x.pair(0, 0, 2, 0), -1);
        due("from -1", x.pair(0, -1, 1, 0), -1);
        due("to -1", x.pair(0, 0, -1, 0), -1);
        due("part 2", x.pair(0, 0, 1, 2), -2);
        due("last place before part", x.pair(1, 0, 1, 2), -1);
        due("a row of one place", Examples.oneState(1).pair(0, 0, 0, 0), -1);
        x.sign(2);
        due("no way", x.pair(0, 0, 1, 0), -3);
        due("part before none", x.pair(0, 0, 1, -1), -2);
    }

    private static void promise16Top() {
        HiddenRows x = Examples.twoStates();
        due("top(0)", x.top(0), 0);
        due("top(1)", x.top(1), 1);
        due("place 2", x.top(2), -1);
        due("place -1", x.top(-1), -1);
        HiddenRows even = Examples.oneState(0);
        even.state();
        even.state();
        even.weight(0, 5, 1);
        even.weight(1, 5, 2);
        even.weight(2, 5, 2);
        even.sign(0);
        due("the least of several", even.top(0), 1);
        x.sign(3);
        due("no way", x.top(0), -3);
        due("place before none", x.top(3), -1);
    }

    private static void promise17Best() {
        HiddenRows x = Examples.twoStates();
        due("best(0)", x.best(0), 12);
        due("best(1)", x.best(1), 6);
        due("best(2)", x.best(2), 1);
        due("best(3)", x.best(3), -3);
        due("best(9)", x.best(9), -3);
        due("best(10)", x.best(10), -2);
        due("best(-1)", x.best(-1), -2);
        due("best(high)", x.best(HIGH), -2);
        x.clear();
        due("no places", x.best(0), -3);
        due("bounds before none", x.best(10), -2);
        HiddenRows many = Examples.oneState(6);
        many.weight(0, 3, 2);
        due("three stays of two", many.best(0), 8);
        due("two of them, fourth", many.best(1), 4);
        due("two of them, last", many.best(6), 4);
        due("one of them", many.best(7), 2);
        due("the tenth", many.best(9), 2);
    }

    private static void promise18BestAt() {
        HiddenRows x = Examples.twoStates();
        due("bestAt(0, 0)", x.bestAt(0, 0), 0);
        due("bestAt(0, 1)", x.bestAt(0, 1), 2);
        due("bestAt(1, 1)", x.bestAt(1, 1), 1);
        due("bestAt(2, 0)", x.bestAt(2, 0), 2);
        due("bestAt(2, 1)", x.bestAt(2, 1), 0);
        HiddenRows tied = Examples.twoStatesTied();
        due("tied, the one before", tied.bestAt(0, 1), 1);
        due("tied, the one behind", tied.bestAt(1, 1), 2);
        due("k 10", x.bestAt(10, 0), -2);
        due("k -1", x.bestAt(-1, 0), -2);
        due("k 3", x.bestAt(3, 0), -3);
        due("place 2", x.bestAt(0, 2), -1);
        due("place -1", x.bestAt(0, -1), -1);
        due("k before place", x.bestAt(10, 2), -2);
        due("none before place", x.bestAt(3, 2), -3);
    }

    /** The number that DRAWING takes modulo TOTAL. */
    private static long spread(int seed) {
        long once = (seed * 1664525L + 1013904223L) & 0xFFFFFFFFL;
        long twice = (once * 1664525L + 1013904223L) & 0xFFFFFFFFL;
        return 2147483648L * (once / 2) + twice / 2;
    }

    private static void promise19Drawn() {
        HiddenRows x = Examples.twoStates();
        boolean[] seen = new boolean[19];
        for (int seed = -100; seed < 100; seed++) {
            int u = (int) (spread(seed) % 19);
            seen[u] = true;
            due("drawn by u " + u, x.drawn(seed), u < 6 ? 6 : u < 18 ? 12 : 1);
            due("drawnAt(0) by u " + u, x.drawnAt(0), u < 18 ? 0 : 2);
        }
        for (int u = 0; u < 19; u++) {
            due("u " + u + " was drawn", seen[u] ? 1 : 0, 1);
        }
        long low = spread(LOW) % 19;
        due("the lowest seed", x.drawn(LOW), low < 6 ? 6 : low < 18 ? 12 : 1);
        due("the same seed again", x.drawn(LOW), low < 6 ? 6 : low < 18 ? 12 : 1);
        x.sign(2);
        due("no way", x.drawn(1), -3);
        due("nothing was drawn", x.drawnAt(0), -3);
    }

    private static void promise20DrawnAt() {
        HiddenRows x = Examples.twoStates();
        due("none yet", x.drawnAt(0), -3);
        due("none before place", x.drawnAt(5), -3);
        for (int seed = 0; seed < 40; seed++) {
            long weight = x.drawn(seed);
            due("first place", x.drawnAt(0), weight == 1 ? 2 : 0);
            due("second place", x.drawnAt(1), weight == 6 ? 1 : weight == 12 ? 2 : 0);
        }
        due("place 2", x.drawnAt(2), -1);
        due("place -1", x.drawnAt(-1), -1);
        due("place high", x.drawnAt(HIGH), -1);
    }

    private static void promise20WhatForgetsTheDrawn() {
        HiddenRows x = Examples.twoStates();
        x.hold(0, 0);
        x.hold(1, 1);
        for (int change = 0; change < 7; change++) {
            x.drawn(1);
            refusedOrOther(x);
            due("not forgotten", x.drawnAt(1), 2);
            int length = applyChange(x, change);
            due("forgotten by change " + change, x.drawnAt(1), -3);
            due("the place does not matter", x.drawnAt(length), -3);
        }
        HiddenRows longer = Examples.oneState(1);
        longer.drawn(1);
        longer.sign(0);
        due("forgotten by a sign", longer.drawnAt(0), -3);
        HiddenRows refused = Examples.oneState(1);
        refused.drawn(1);
        refused.sign(1);
        refused.drawn(1);
        due("a refused drawing draws nothing", refused.drawnAt(0), -3);
        HiddenRows full = Examples.oneState(6);
        for (int s = 1; s < 4; s++) {
            full.state();
        }
        full.drawn(3);
        full.state();
        full.sign(0);
        due("no room is no change", full.drawnAt(5), 0);
    }

    private static void refusedOrOther(HiddenRows x) {
        x.weight(0, 0, 5);
        x.weight(4, 0, 1);
        x.move(0, 4, 1);
        x.move(0, 0, -1);
        x.sign(4);
        x.hold(9, 0);
        x.hold(0, 9);
        x.kind();
        x.rule(0, 0, 0, 1);
        x.leaf(0, 0, 1);
        x.total();
        x.best(0);
        x.share(0, 0, 7);
        x.drawnAt(9);
    }

    /** A change that leaves (but for the last two) all as it was; answers how many places there are. */
    private static int applyChange(HiddenRows x, int change) {
        switch (change) {
            case 0: x.weight(0, 5, 2); return 2;
            case 1: x.move(0, 1, 2); return 2;
            case 2: x.hold(0, 0); return 2;
            case 3: x.hold(0, -1); return 2;
            case 4: x.state(); return 2;
            case 5: x.sign(0); x.clear(); x.sign(0); x.sign(1); x.hold(0, 0); x.hold(1, 1); return 2;
            default: x.clear(); return 0;
        }
    }

    private static void promise21Trees() {
        HiddenRows x = Examples.twoKinds();
        due("trees(0)", x.trees(0), 52);
        due("trees(1)", x.trees(1), 3 * (1 * (0 + 8) + (4 + 2) * 4));
        due("kind 2", x.trees(2), -1);
        due("kind -1", x.trees(-1), -1);
        due("kind high", x.trees(HIGH), -1);
        x.leaf(0, 1, 2);
        due("another leaf", x.trees(0), 26);
        x.rule(1, 0, 0, 0);
        due("a rule less", x.trees(0), 2 * 2 * 2);
        due("a new kind", x.kind(), 2);
        due("without rules", x.trees(2), 0);
        HiddenRows missing = new HiddenRows();
        missing.kind();
        missing.leaf(0, 0, 1);
        missing.leaf(0, 3, 4);
        missing.sign(-1);
        due("a missing sign", missing.trees(0), 5);
        missing.clear();
        due("without places", missing.trees(0), 0);
    }

    private static void promise22TreeCount() {
        HiddenRows x = Examples.twoKinds();
        due("treeCount(0)", x.treeCount(0), 3);
        due("treeCount(1)", x.treeCount(1), 3);
        due("kind 2", x.treeCount(2), -1);
        due("kind -1", x.treeCount(-1), -1);
        x.leaf(0, 1, 0);
        due("none above 0", x.treeCount(0), 0);
        x.clear();
        due("without places", x.treeCount(0), 0);
        x.sign(-1);
        due("a missing sign is one tree", x.treeCount(1), 1);
    }

    private static void promise23TreeBest() {
        HiddenRows x = Examples.twoKinds();
        due("treeBest(0)", x.treeBest(0), 24);
        due("treeBest(1)", x.treeBest(1), 48);
        due("kind 2", x.treeBest(2), -1);
        due("kind -1", x.treeBest(-1), -1);
        x.leaf(0, 1, 0);
        due("none above 0", x.treeBest(0), -3);
        x.clear();
        due("without places", x.treeBest(0), -3);
        due("kind before none", x.treeBest(2), -1);
    }

    private static void promise24TreeAt() {
        HiddenRows x = Examples.twoKinds();
        int[] best = {101, 0, 200, 0, 0};
        for (int i = 0; i < best.length; i++) {
            due("treeAt(0, " + i + ")", x.treeAt(0, i), best[i]);
        }
        due("number 5", x.treeAt(0, 5), -1);
        due("number -1", x.treeAt(0, -1), -1);
        due("number high", x.treeAt(0, HIGH), -1);
        due("kind 2", x.treeAt(2, 0), -1);
        due("kind -1", x.treeAt(-1, 0), -1);
        int[] leftHeavy = {200, 101, 0, 0, 0};
        for (int i = 0; i < leftHeavy.length; i++) {
            due("treeAt(1, " + i + ")", x.treeAt(1, i), leftHeavy[i]);
        }
        x.rule(0, 1, 0, 3);
        due("another weighs more", x.treeBest(0), 144);
        due("as it tells", x.treeAt(0, 0), 110);
        x.leaf(0, 1, 0);
        due("none above 0", x.treeAt(0, 0), -3);
        due("none before number", x.treeAt(0, 9), -3);
        x.clear();
        x.sign(0);
        due("a leaf alone", x.treeAt(1, 0), 0);
        due("a leaf alone, number 1", x.treeAt(1, 1), -1);
    }

    private static void promise25Span() {
        HiddenRows x = Examples.twoKinds();
        dueRatio("1 over 1 .. 2", x.span(0, 1, 1, 2, 0), x.span(0, 1, 1, 2, 1), 6, 13);
        dueRatio("0 over 1 .. 2", x.span(0, 0, 1, 2, 0), x.span(0, 0, 1, 2, 1), 4, 13);
        dueRatio("1 over 0 .. 1", x.span(0, 1, 0, 1, 0), x.span(0, 1, 0, 1, 1), 3, 13);
        dueRatio("0 over 0 .. 1", x.span(0, 0, 0, 1, 0), x.span(0, 0, 0, 1, 1), 0, 1);
        dueRatio("0 over 0 .. 2", x.span(0, 0, 0, 2, 0), x.span(0, 0, 0, 2, 1), 1, 1);
        dueRatio("1 over 0 .. 2", x.span(0, 1, 0, 2, 0), x.span(0, 1, 0, 2, 1), 0, 1);
        dueRatio("1 over 0", x.span(0, 1, 0, 0, 0), x.span(0, 1, 0, 0, 1), 4, 13);
        dueRatio("0 over 2", x.span(0, 0, 2, 2, 0), x.span(0, 0, 2, 2, 1), 1, 1);
        due("kind 2", x.span(2, 0, 0, 0, 0), -1);
        due("kind -1", x.span(-1, 0, 0, 0, 0), -1);
        due("within 2", x.span(0, 2, 0, 0, 0), -1);
        due("within -1", x.span(0, -1, 0, 0, 0), -1);
        due("i -1", x.span(0, 0, -1, 0, 0), -1);
        due("j 3", x.span(0, 0, 0, 3, 0), -1);
        due("i and j 3", x.span(0, 0, 3, 3, 0), -1);
        due("i above j", x.span(0, 0, 2, 1, 0), -1);
        due("part 2", x.span(0, 0, 0, 0, 2), -2);
        due("part -1", x.span(0, 0, 0, 0, -1), -2);
        due("places before part", x.span(0, 0, 2, 1, 2), -1);
        x.leaf(0, 1, 0);
        due("none above 0", x.span(0, 0, 0, 0, 0), -3);
        due("part before none", x.span(0, 0, 0, 0, 2), -2);
        x.clear();
        due("without places", x.span(0, 0, 0, 0, 0), -1);
    }

    private static void greatestNumbers() {
        HiddenRows x = Examples.greatest();
        due("greatest total", x.total(), 4983356407865671680L);
        due("most ways", x.ways(), 12240);
        dueRatio("even shares", x.share(2, 3, 0), x.share(2, 3, 1), 1, 4);
        dueRatio("even beginnings", x.begin(0, 3, 0), x.begin(0, 3, 1), 1, 4);
        due("the best ten, all of one place each", x.bestAt(9, 4), 4);
        due("greatest sum of trees", x.trees(2), 42L << 54);
        due("most trees", x.treeCount(2), 42L << 20);
        due("greatest tree", x.treeBest(2), 1L << 34);
        int[] first = {100, 0, 200, 0, 300, 0, 400, 0, 500, 0, 0};
        for (int i = 0; i < first.length; i++) {
            due("first of all trees", x.treeAt(3, i), first[i]);
        }
        due("no more is told", x.treeAt(3, 11), -1);
        dueRatio("14 of 42 shapes, one of four kinds", x.span(0, 1, 1, 2, 0), x.span(0, 1, 1, 2, 1), 1, 12);
        dueRatio("a leaf, one of four kinds", x.span(0, 1, 3, 3, 0), x.span(0, 1, 3, 3, 1), 1, 4);
    }
}
