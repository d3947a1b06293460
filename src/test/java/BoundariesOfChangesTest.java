import java.io.IOException;

/** Promises 1 to 10, sentence by sentence: too small, too large, empty, full, refused. */
public final class BoundariesOfChangesTest {
    private static final int LOW = Integer.MIN_VALUE;
    private static final int HIGH = Integer.MAX_VALUE;
    private static final int[] NO_WEIGHTS = {-1, 5, -2, 6, LOW, HIGH, 256, 1 << 16};

    public static void main(String[] args) throws IOException {
        Sentences sentences = new Sentences();
        newObject(sentences);
        statesAndMoves(sentences);
        kindsRulesAndLeaves(sentences);
        theRow(sentences);
        holding(sentences);
        sentences.end("Promise 1", "Promise 2", "Promise 3", "Promise 4", "Promise 5", "Promise 6", "Promise 7",
            "Promise 8", "Promise 9", "Promise 10");
    }

    private static void newObject(Sentences on) {
        on.promise(1, "No STATES,", BoundariesOfChangesTest::aNewObjectHasNoStates);
        on.promise(1, "no KINDS,", BoundariesOfChangesTest::aNewObjectHasNoKinds);
        on.promise(1, "an empty ROW.", BoundariesOfChangesTest::aNewObjectHasAnEmptyRow);
        on.promise(1, "No STATES, no KINDS, an empty ROW.", BoundariesOfChangesTest::aNewObjectHasNothingOfAnother);
    }

    private static void statesAndMoves(Sentences on) {
        on.promise(2, "A STATE more: its number.", BoundariesOfChangesTest::statesFromNoneToFour);
        on.promise(2, "A STATE more:", BoundariesOfChangesTest::aNewStateDisturbsNone);
        on.promise(2, "-4.", BoundariesOfChangesTest::noRoomForAFifthState);
        on.promise(3, "FIRST (what = 0), LAST (1), STAY 1 to 3 (2 to 4) of a STATE, SHOW of SIGN 0 .. 3 (5 to 8):",
            BoundariesOfChangesTest::whatEachWeightIsFor);
        on.promise(3, "what it was.", BoundariesOfChangesTest::whatAWeightWas);
        on.promise(3, "-1 (STATE, what),", BoundariesOfChangesTest::noSuchStateOrWhat);
        on.promise(3, "-1 (STATE, what), -2.", BoundariesOfChangesTest::noSuchStateOrWhatBeforeBounds);
        on.promise(3, "-2.", BoundariesOfChangesTest::weightOutsideItsBounds);
        on.promise(4, "MOVE: what it was.", BoundariesOfChangesTest::whatAMoveWas);
        on.promise(4, "-1,", BoundariesOfChangesTest::noSuchStateToMove);
        on.promise(4, "-1, -2.", BoundariesOfChangesTest::noSuchStateToMoveBeforeBounds);
        on.promise(4, "-2.", BoundariesOfChangesTest::moveOutsideItsBounds);
    }

    private static void kindsRulesAndLeaves(Sentences on) {
        on.promise(5, "A KIND more: its number.", BoundariesOfChangesTest::kindsFromNoneToFour);
        on.promise(5, "-4.", BoundariesOfChangesTest::noRoomForAFifthKind);
        on.promise(6, "The RULE of a, b, c: what it was.", BoundariesOfChangesTest::whatARuleWas);
        on.promise(6, "-1,", BoundariesOfChangesTest::noSuchKindOfARule);
        on.promise(6, "-1, -2.", BoundariesOfChangesTest::noSuchKindOfARuleBeforeBounds);
        on.promise(6, "-2.", BoundariesOfChangesTest::ruleOutsideItsBounds);
        on.promise(7, "The LEAF of a KIND and a SIGN: what it was.", BoundariesOfChangesTest::whatALeafWas);
        on.promise(7, "-1,", BoundariesOfChangesTest::noSuchKindOrSignOfALeaf);
        on.promise(7, "-1, -2.", BoundariesOfChangesTest::noSuchKindOrSignBeforeBounds);
        on.promise(7, "-2.", BoundariesOfChangesTest::leafOutsideItsBounds);
    }

    private static void theRow(Sentences on) {
        on.promise(8, "A SIGN (-1: MISSING) comes behind THE ROW;", BoundariesOfChangesTest::aSignComesBehind);
        on.promise(8, "nowhere is HELD by this:", BoundariesOfChangesTest::aSignHoldsNothing);
        on.promise(8, "how many there are.", BoundariesOfChangesTest::howManySignsThereAre);
        on.promise(8, "-2,", BoundariesOfChangesTest::signOutsideItsBounds);
        on.promise(8, "-2, -4.", BoundariesOfChangesTest::boundsBeforeRoom);
        on.promise(8, "-4.", BoundariesOfChangesTest::noRoomForASeventhSign);
        on.promise(9, "THE ROW is empty:", BoundariesOfChangesTest::clearEmptiesTheRow);
        on.promise(9, "THE ROW is empty:", BoundariesOfChangesTest::clearLeavesStatesAndKinds);
        on.promise(9, "how many there were.", BoundariesOfChangesTest::howManySignsThereWere);
    }

    private static void holding(Sentences on) {
        on.promise(10, "A place is HELD for a STATE", BoundariesOfChangesTest::firstAndLastPlaceHeld);
        on.promise(10, "(-1: it is not HELD):", BoundariesOfChangesTest::letGo);
        on.promise(10, "what it was HELD for (-1: it was not).", BoundariesOfChangesTest::whatItWasHeldFor);
        on.promise(10, "-1 no such place, STATE.", BoundariesOfChangesTest::noSuchPlaceToHold);
        on.promise(10, "STATE.", BoundariesOfChangesTest::noSuchStateToHoldFor);
        on.promise(10, "(-1 may be both.)", BoundariesOfChangesTest::minusOneMayBeBoth);
    }

    private static void aNewObjectHasNoStates(Sentences t) {
        HiddenRows x = new HiddenRows();
        t.due("weight(0, 0, 1)", x.weight(0, 0, 1), -1);
        t.due("move(0, 0, 1)", x.move(0, 0, 1), -1);
        x.sign(0);
        x.sign(0);
        t.due("hold(0, 0)", x.hold(0, 0), -1);
        t.due("share(0, 0, 0)", x.share(0, 0, 0), -1);
        t.due("begin(0, 0, 0)", x.begin(0, 0, 0), -1);
        t.due("pair(0, 0, 0, 0)", x.pair(0, 0, 0, 0), -1);
        t.due("total()", x.total(), 0);
        t.due("ways()", x.ways(), 0);
        t.due("top(0)", x.top(0), -3);
        t.due("best(0)", x.best(0), -3);
        t.due("drawn(0)", x.drawn(0), -3);
        t.due("state()", x.state(), 0);
    }

    private static void aNewObjectHasNoKinds(Sentences t) {
        HiddenRows x = new HiddenRows();
        t.due("rule(0, 0, 0, 1)", x.rule(0, 0, 0, 1), -1);
        t.due("leaf(0, 0, 1)", x.leaf(0, 0, 1), -1);
        x.sign(0);
        t.due("trees(0)", x.trees(0), -1);
        t.due("treeCount(0)", x.treeCount(0), -1);
        t.due("treeBest(0)", x.treeBest(0), -1);
        t.due("treeAt(0, 0)", x.treeAt(0, 0), -1);
        t.due("span(0, 0, 0, 0, 0)", x.span(0, 0, 0, 0, 0), -1);
        t.due("kind()", x.kind(), 0);
    }

    private static void aNewObjectHasAnEmptyRow(Sentences t) {
        t.due("clear()", new HiddenRows().clear(), 0);
        t.due("sign(0)", new HiddenRows().sign(0), 1);
        t.due("drawnAt(0)", new HiddenRows().drawnAt(0), -3);
        HiddenRows x = new HiddenRows();
        x.state();
        x.kind();
        t.due("hold(0, 0)", x.hold(0, 0), -1);
        t.due("total()", x.total(), 0);
        t.due("share(0, 0, 0)", x.share(0, 0, 0), -1);
        t.due("begin(0, 0, 0)", x.begin(0, 0, 0), -1);
        t.due("pair(0, 0, 0, 0)", x.pair(0, 0, 0, 0), -1);
        t.due("top(0)", x.top(0), -1);
        t.due("trees(0)", x.trees(0), 0);
        t.due("span(0, 0, 0, 0, 0)", x.span(0, 0, 0, 0, 0), -1);
    }

    private static void aNewObjectHasNothingOfAnother(Sentences t) {
        HiddenRows one = Examples.greatest();
        one.hold(0, 3);
        one.drawn(0);
        HiddenRows other = new HiddenRows();
        t.due("clear()", other.clear(), 0);
        t.due("state()", other.state(), 0);
        t.due("kind()", other.kind(), 0);
        for (int what = 0; what < 9; what++) {
            t.due("weight(0, " + what + ", 0)", other.weight(0, what, 0), what < 3 ? 1 : 0);
        }
        t.due("leaf(0, 0, 0)", other.leaf(0, 0, 0), 0);
        t.due("sign(0)", other.sign(0), 1);
        t.due("hold(0, -1)", other.hold(0, -1), -1);
        t.due("drawnAt(0)", other.drawnAt(0), -3);
        t.due("the first object's drawnAt(0)", one.drawnAt(0), 6);
    }

    private static void statesFromNoneToFour(Sentences t) {
        HiddenRows x = new HiddenRows();
        for (int s = 0; s < 4; s++) {
            t.due("weight of state " + s + " before it is there", x.weight(s, 0, 1), -1);
            t.due("state()", x.state(), s);
            t.due("weight of state " + s, x.weight(s, 0, 1), 1);
        }
    }

    private static void aNewStateDisturbsNone(Sentences t) {
        HiddenRows x = Examples.twoStates();
        x.hold(1, 1);
        t.due("state()", x.state(), 2);
        t.due("total()", x.total(), 12);
        t.due("share(0, 2, 0)", x.share(0, 2, 0), 0);
        t.due("share(0, 2, 1)", x.share(0, 2, 1), 1);
        t.due("what place 1 was held for", x.hold(1, -1), 1);
        t.due("total()", x.total(), 19);
    }

    private static void noRoomForAFifthState(Sentences t) {
        HiddenRows x = new HiddenRows();
        for (int s = 0; s < 4; s++) {
            x.state();
        }
        t.due("state()", x.state(), -4);
        t.due("state() again", x.state(), -4);
        t.due("weight(4, 0, 1)", x.weight(4, 0, 1), -1);
        t.due("weight(3, 0, 4)", x.weight(3, 0, 4), 1);
        t.due("move(3, 3, 4)", x.move(3, 3, 4), 0);
    }

    private static void whatEachWeightIsFor(Sentences t) {
        HiddenRows x = new HiddenRows();
        x.state();
        x.move(0, 0, 1);
        int[] values = {2, 3, 4, 1, 3, 1, 2, 3, 4};
        for (int what = 0; what < 9; what++) {
            x.weight(0, what, values[what]);
        }
        for (int s = 0; s < 4; s++) {
            x.clear();
            x.sign(s);
            t.due("FIRST * LAST * STAY 1 * SHOW of " + s, x.total(), 2 * 3 * 4 * (s + 1));
        }
        x.clear();
        x.sign(0);
        x.sign(0);
        t.due("STAY 1 twice or STAY 2", x.total(), 6 * (16 + 1));
        x.sign(0);
        t.due("or STAY 3", x.total(), 6 * (64 + 4 + 4 + 3));
    }

    private static void whatAWeightWas(Sentences t) {
        HiddenRows x = new HiddenRows();
        x.state();
        x.state();
        for (int what = 0; what < 9; what++) {
            t.due("weight(1, " + what + ", 4)", x.weight(1, what, 4), what < 3 ? 1 : 0);
            t.due("weight(1, " + what + ", 4) again", x.weight(1, what, 4), 4);
            t.due("weight(1, " + what + ", 0)", x.weight(1, what, 0), 4);
            t.due("weight(1, " + what + ", 3)", x.weight(1, what, 3), 0);
        }
        for (int what = 0; what < 9; what++) {
            t.due("state 0 is another: " + what, x.weight(0, what, 1), what < 3 ? 1 : 0);
            t.due("weight(1, " + what + ", 1)", x.weight(1, what, 1), 3);
        }
    }

    private static void noSuchStateOrWhat(Sentences t) {
        HiddenRows x = new HiddenRows();
        x.state();
        x.state();
        for (int state : new int[] {-1, 2, 3, 4, LOW, HIGH}) {
            t.due("weight(" + state + ", 0, 1)", x.weight(state, 0, 1), -1);
            t.due("weight(" + state + ", 8, 1)", x.weight(state, 8, 1), -1);
        }
        for (int what : new int[] {-1, 9, 10, LOW, HIGH}) {
            t.due("weight(0, " + what + ", 1)", x.weight(0, what, 1), -1);
            t.due("weight(1, " + what + ", 1)", x.weight(1, what, 1), -1);
        }
        t.due("the least what", x.weight(1, 0, 1), 1);
        t.due("the greatest what", x.weight(1, 8, 1), 0);
    }

    private static void noSuchStateOrWhatBeforeBounds(Sentences t) {
        HiddenRows x = new HiddenRows();
        x.state();
        t.due("weight(1, 0, 5)", x.weight(1, 0, 5), -1);
        t.due("weight(-1, 0, -1)", x.weight(-1, 0, -1), -1);
        t.due("weight(0, 9, 5)", x.weight(0, 9, 5), -1);
        t.due("weight(0, -1, -1)", x.weight(0, -1, -1), -1);
        t.due("weight(1, 9, 5)", x.weight(1, 9, 5), -1);
    }

    private static void weightOutsideItsBounds(Sentences t) {
        HiddenRows x = new HiddenRows();
        x.state();
        for (int what = 0; what < 9; what++) {
            for (int w : NO_WEIGHTS) {
                t.due("weight(0, " + what + ", " + w + ")", x.weight(0, what, w), -2);
            }
            t.due("it is as it was: " + what, x.weight(0, what, 0), what < 3 ? 1 : 0);
            t.due("the least", x.weight(0, what, 4), 0);
            t.due("the greatest", x.weight(0, what, 2), 4);
        }
    }

    private static void whatAMoveWas(Sentences t) {
        HiddenRows x = Examples.full();
        for (int from = 0; from < 4; from++) {
            for (int to = 0; to < 4; to++) {
                t.due("move(" + from + ", " + to + ") at first", x.move(from, to, (from + 2 * to) % 5), 0);
            }
        }
        for (int from = 0; from < 4; from++) {
            for (int to = 0; to < 4; to++) {
                t.due("move(" + from + ", " + to + ")", x.move(from, to, 0), (from + 2 * to) % 5);
            }
        }
    }

    private static void noSuchStateToMove(Sentences t) {
        HiddenRows x = new HiddenRows();
        x.state();
        x.state();
        for (int state : new int[] {-1, 2, 3, 4, LOW, HIGH}) {
            t.due("move(" + state + ", 0, 1)", x.move(state, 0, 1), -1);
            t.due("move(0, " + state + ", 1)", x.move(0, state, 1), -1);
            t.due("move(" + state + ", " + state + ", 1)", x.move(state, state, 1), -1);
        }
        t.due("move(1, 1, 1)", x.move(1, 1, 1), 0);
    }

    private static void noSuchStateToMoveBeforeBounds(Sentences t) {
        HiddenRows x = new HiddenRows();
        x.state();
        t.due("move(1, 0, 5)", x.move(1, 0, 5), -1);
        t.due("move(0, 1, -1)", x.move(0, 1, -1), -1);
    }

    private static void moveOutsideItsBounds(Sentences t) {
        HiddenRows x = new HiddenRows();
        x.state();
        x.state();
        x.move(0, 1, 3);
        for (int w : NO_WEIGHTS) {
            t.due("move(0, 1, " + w + ")", x.move(0, 1, w), -2);
        }
        t.due("the greatest", x.move(0, 1, 4), 3);
        t.due("the least", x.move(0, 1, 0), 4);
        t.due("what it was", x.move(0, 1, 1), 0);
    }

    private static void kindsFromNoneToFour(Sentences t) {
        HiddenRows x = new HiddenRows();
        x.sign(0);
        for (int k = 0; k < 4; k++) {
            t.due("trees of kind " + k + " before it is there", x.trees(k), -1);
            t.due("kind()", x.kind(), k);
            t.due("trees of kind " + k, x.trees(k), 0);
        }
    }

    private static void noRoomForAFifthKind(Sentences t) {
        HiddenRows x = new HiddenRows();
        for (int k = 0; k < 4; k++) {
            x.kind();
        }
        t.due("kind()", x.kind(), -4);
        t.due("kind() again", x.kind(), -4);
        t.due("leaf(4, 0, 1)", x.leaf(4, 0, 1), -1);
        t.due("leaf(3, 3, 4)", x.leaf(3, 3, 4), 0);
        t.due("rule(3, 3, 3, 4)", x.rule(3, 3, 3, 4), 0);
    }

    private static void whatARuleWas(Sentences t) {
        HiddenRows x = Examples.full();
        for (int i = 0; i < 64; i++) {
            t.due("rule " + i + " at first", x.rule(i / 16, i / 4 % 4, i % 4, i % 5), 0);
        }
        for (int i = 0; i < 64; i++) {
            t.due("rule " + i, x.rule(i / 16, i / 4 % 4, i % 4, 4), i % 5);
            t.due("rule " + i + " again", x.rule(i / 16, i / 4 % 4, i % 4, 4), 4);
        }
    }

    private static void noSuchKindOfARule(Sentences t) {
        HiddenRows x = new HiddenRows();
        x.kind();
        x.kind();
        for (int kind : new int[] {-1, 2, 3, 4, LOW, HIGH}) {
            t.due("rule(" + kind + ", 0, 0, 1)", x.rule(kind, 0, 0, 1), -1);
            t.due("rule(0, " + kind + ", 0, 1)", x.rule(0, kind, 0, 1), -1);
            t.due("rule(0, 0, " + kind + ", 1)", x.rule(0, 0, kind, 1), -1);
        }
        t.due("rule(1, 1, 1, 1)", x.rule(1, 1, 1, 1), 0);
    }

    private static void noSuchKindOfARuleBeforeBounds(Sentences t) {
        HiddenRows x = new HiddenRows();
        x.kind();
        t.due("rule(1, 0, 0, 5)", x.rule(1, 0, 0, 5), -1);
        t.due("rule(0, -1, 0, -1)", x.rule(0, -1, 0, -1), -1);
        t.due("rule(0, 0, 1, 5)", x.rule(0, 0, 1, 5), -1);
    }

    private static void ruleOutsideItsBounds(Sentences t) {
        HiddenRows x = new HiddenRows();
        x.kind();
        x.rule(0, 0, 0, 3);
        for (int w : NO_WEIGHTS) {
            t.due("rule(0, 0, 0, " + w + ")", x.rule(0, 0, 0, w), -2);
        }
        t.due("the greatest", x.rule(0, 0, 0, 4), 3);
        t.due("the least", x.rule(0, 0, 0, 0), 4);
        t.due("what it was", x.rule(0, 0, 0, 1), 0);
    }

    private static void whatALeafWas(Sentences t) {
        HiddenRows x = Examples.full();
        for (int i = 0; i < 16; i++) {
            t.due("leaf " + i + " at first", x.leaf(i / 4, i % 4, i % 5), 0);
        }
        for (int i = 0; i < 16; i++) {
            t.due("leaf " + i, x.leaf(i / 4, i % 4, 4), i % 5);
            t.due("leaf " + i + " again", x.leaf(i / 4, i % 4, 4), 4);
        }
    }

    private static void noSuchKindOrSignOfALeaf(Sentences t) {
        HiddenRows x = new HiddenRows();
        x.kind();
        x.kind();
        for (int kind : new int[] {-1, 2, 3, 4, LOW, HIGH}) {
            t.due("leaf(" + kind + ", 0, 1)", x.leaf(kind, 0, 1), -1);
        }
        for (int sign : new int[] {-1, 4, 5, LOW, HIGH}) {
            t.due("leaf(0, " + sign + ", 1)", x.leaf(0, sign, 1), -1);
        }
        t.due("leaf(1, 3, 1)", x.leaf(1, 3, 1), 0);
    }

    private static void noSuchKindOrSignBeforeBounds(Sentences t) {
        HiddenRows x = new HiddenRows();
        x.kind();
        t.due("leaf(1, 0, 5)", x.leaf(1, 0, 5), -1);
        t.due("leaf(0, 4, -1)", x.leaf(0, 4, -1), -1);
        t.due("leaf(0, -1, 5)", x.leaf(0, -1, 5), -1);
    }

    private static void leafOutsideItsBounds(Sentences t) {
        HiddenRows x = new HiddenRows();
        x.kind();
        x.leaf(0, 3, 3);
        for (int w : NO_WEIGHTS) {
            t.due("leaf(0, 3, " + w + ")", x.leaf(0, 3, w), -2);
        }
        t.due("the greatest", x.leaf(0, 3, 4), 3);
        t.due("the least", x.leaf(0, 3, 0), 4);
        t.due("what it was", x.leaf(0, 3, 1), 0);
    }

    private static void aSignComesBehind(Sentences t) {
        HiddenRows x = new HiddenRows();
        x.state();
        x.kind();
        x.move(0, 0, 1);
        x.rule(0, 0, 0, 1);
        for (int s = 0; s < 4; s++) {
            x.weight(0, 5 + s, s + 1);
            x.leaf(0, s, 4 - s);
        }
        int[] signs = {3, 0, 1, -1, 2, 0};
        int[] shown = {4, 1, 2, 10, 3, 1};
        int[] leaves = {1, 4, 3, 10, 2, 4};
        int[] shapes = {1, 1, 2, 5, 14, 42};
        long total = 1;
        long trees = 1;
        for (int i = 0; i < 6; i++) {
            x.sign(signs[i]);
            total *= shown[i];
            trees *= leaves[i];
            t.due("total() with sign " + i, x.total(), total);
            t.due("trees(0) with sign " + i, x.trees(0), shapes[i] * trees);
        }
        HiddenRows order = Examples.twoStates();
        order.hold(1, 1);
        t.due("the second sign is the one behind", order.total(), 12);
    }

    private static void aSignHoldsNothing(Sentences t) {
        HiddenRows x = Examples.oneState(6);
        for (int place = 0; place < 6; place++) {
            x.hold(place, 0);
        }
        x.clear();
        for (int place = 0; place < 6; place++) {
            x.sign(0);
            t.due("what place " + place + " was held for", x.hold(place, 0), -1);
        }
        HiddenRows y = Examples.twoStates();
        y.hold(0, 0);
        y.sign(1);
        t.due("what the place before is held for", y.hold(0, -1), 0);
    }

    private static void howManySignsThereAre(Sentences t) {
        HiddenRows x = new HiddenRows();
        int[] signs = {-1, 0, 1, 2, 3, -1};
        for (int i = 0; i < 6; i++) {
            t.due("sign(" + signs[i] + ")", x.sign(signs[i]), i + 1);
        }
        x.clear();
        t.due("after clear()", x.sign(3), 1);
    }

    private static void signOutsideItsBounds(Sentences t) {
        HiddenRows x = new HiddenRows();
        for (int n = 0; n < 6; n++) {
            for (int s : new int[] {-2, 4, -3, 5, LOW, HIGH}) {
                t.due("sign(" + s + ") with " + n + " signs", x.sign(s), -2);
            }
            t.due("none has come", x.sign(n % 2 == 0 ? -1 : 3), n + 1);
        }
    }

    private static void boundsBeforeRoom(Sentences t) {
        HiddenRows x = Examples.full();
        for (int s : new int[] {-2, 4, LOW, HIGH}) {
            t.due("sign(" + s + ") in a full row", x.sign(s), -2);
        }
    }

    private static void noRoomForASeventhSign(Sentences t) {
        HiddenRows x = Examples.full();
        for (int s = -1; s < 4; s++) {
            t.due("sign(" + s + ") in a full row", x.sign(s), -4);
        }
        t.due("clear()", x.clear(), 6);
        t.due("room again", x.sign(0), 1);
    }

    /** Whatever the object works out for its answers, it has worked out now. */
    private static void askAll(HiddenRows x) {
        x.total();
        x.ways();
        x.best(9);
        x.drawn(0);
        x.treeBest(0);
        x.treeCount(0);
        x.span(0, 0, 0, 0, 0);
    }

    private static void clearEmptiesTheRow(Sentences t) {
        HiddenRows x = Examples.greatest();
        x.hold(5, 3);
        askAll(x);
        x.clear();
        t.due("total()", x.total(), 0);
        t.due("ways()", x.ways(), 0);
        t.due("share(0, 0, 0)", x.share(0, 0, 0), -1);
        t.due("begin(0, 0, 0)", x.begin(0, 0, 0), -1);
        t.due("pair(0, 0, 0, 0)", x.pair(0, 0, 0, 0), -1);
        t.due("top(0)", x.top(0), -1);
        t.due("best(0)", x.best(0), -3);
        t.due("bestAt(0, 0)", x.bestAt(0, 0), -3);
        t.due("drawn(0)", x.drawn(0), -3);
        t.due("drawnAt(0)", x.drawnAt(0), -3);
        t.due("hold(0, -1)", x.hold(0, -1), -1);
        t.due("trees(0)", x.trees(0), 0);
        t.due("treeCount(0)", x.treeCount(0), 0);
        t.due("treeBest(0)", x.treeBest(0), -3);
        t.due("treeAt(0, 0)", x.treeAt(0, 0), -3);
        t.due("span(0, 0, 0, 0, 0)", x.span(0, 0, 0, 0, 0), -1);
    }

    private static void clearLeavesStatesAndKinds(Sentences t) {
        HiddenRows x = Examples.greatest();
        x.clear();
        t.due("state()", x.state(), -4);
        t.due("kind()", x.kind(), -4);
        for (int i = 0; i < 4; i++) {
            t.due("weight", x.weight(i, 2 * i, 4), 4);
            t.due("move", x.move(i, 3 - i, 4), 4);
            t.due("rule", x.rule(i, 3 - i, 1, 4), 4);
            t.due("leaf", x.leaf(i, 3 - i, 4), 4);
        }
    }

    private static void howManySignsThereWere(Sentences t) {
        HiddenRows x = new HiddenRows();
        for (int n = 0; n <= 6; n++) {
            for (int i = 0; i < n; i++) {
                x.sign(i % 5 - 1);
            }
            t.due("clear() of " + n, x.clear(), n);
            t.due("clear() again", x.clear(), 0);
        }
    }

    private static void firstAndLastPlaceHeld(Sentences t) {
        HiddenRows x = Examples.twoStates();
        x.hold(0, 1);
        t.due("the first place held for state 1", x.total(), 1);
        x.hold(0, 0);
        t.due("the first place held for state 0", x.total(), 18);
        x.hold(1, 0);
        t.due("the last place held, too", x.total(), 6);
        x.hold(1, 1);
        t.due("the last place held for state 1", x.total(), 12);
    }

    private static void letGo(Sentences t) {
        HiddenRows x = Examples.twoStates();
        x.hold(0, 1);
        x.hold(1, 1);
        t.due("both held", x.total(), 0);
        x.hold(0, -1);
        t.due("the first let go", x.total(), 12);
        x.hold(1, -1);
        t.due("both let go", x.total(), 19);
    }

    private static void whatItWasHeldFor(Sentences t) {
        HiddenRows x = Examples.full();
        for (int place = 0; place < 6; place++) {
            t.due("hold(" + place + ", 3)", x.hold(place, 3), -1);
            t.due("hold(" + place + ", 0)", x.hold(place, 0), 3);
            t.due("hold(" + place + ", 0) again", x.hold(place, 0), 0);
            t.due("hold(" + place + ", -1)", x.hold(place, -1), 0);
            t.due("hold(" + place + ", -1) again", x.hold(place, -1), -1);
        }
    }

    private static void noSuchPlaceToHold(Sentences t) {
        HiddenRows x = Examples.twoStates();
        for (int place : new int[] {-1, 2, 3, 5, 6, LOW, HIGH}) {
            t.due("hold(" + place + ", 0)", x.hold(place, 0), -1);
            t.due("hold(" + place + ", -1)", x.hold(place, -1), -1);
        }
        t.due("nothing is held", x.total(), 19);
        HiddenRows full = Examples.full();
        t.due("hold(6, 0)", full.hold(6, 0), -1);
        full.clear();
        t.due("hold(0, 0) of no place", full.hold(0, 0), -1);
    }

    private static void noSuchStateToHoldFor(Sentences t) {
        HiddenRows x = Examples.twoStates();
        x.hold(0, 1);
        for (int state : new int[] {-2, 2, 3, 4, LOW, HIGH}) {
            t.due("hold(0, " + state + ")", x.hold(0, state), -1);
        }
        t.due("what it was held for", x.hold(0, -1), 1);
    }

    private static void minusOneMayBeBoth(Sentences t) {
        HiddenRows x = Examples.twoStates();
        t.due("not refused, it was not held", x.hold(0, 1), -1);
        t.due("it is held", x.total(), 1);
        t.due("refused", x.hold(0, 2), -1);
        t.due("it is held as before", x.total(), 1);
    }
}
