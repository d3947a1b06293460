import java.io.IOException;
import java.util.function.Consumer;

/** Promises 11 to 20, sentence by sentence: too small, too large, empty, full, a wrap-around, refused. */
public final class BoundariesOfWaysTest {
    private static final int LOW = Integer.MIN_VALUE;
    private static final int HIGH = Integer.MAX_VALUE;

    public static void main(String[] args) throws IOException {
        Sentences sentences = new Sentences();
        totals(sentences);
        shares(sentences);
        beginnings(sentences);
        pairs(sentences);
        tops(sentences);
        bests(sentences);
        drawings(sentences);
        sentences.end("Promise 11", "Promise 12", "Promise 13", "Promise 14", "Promise 15", "Promise 16", "Promise 17",
            "Promise 18", "Promise 19", "Promise 20");
    }

    private static void totals(Sentences on) {
        on.promise(11, "TOTAL.", BoundariesOfWaysTest::totalOfNothing);
        on.promise(11, "TOTAL.", BoundariesOfWaysTest::totalOfAllThereCanBe);
        on.promise(12, "How many WAYS have a WEIGHT above 0.", BoundariesOfWaysTest::waysThatWeighNothing);
        on.promise(12, "How many WAYS have a WEIGHT above 0.", BoundariesOfWaysTest::mostWaysThereCanBe);
    }

    private static void shares(Sentences on) {
        on.promise(13, "The SHARE of the WAYS in which a place is of a STATE.", BoundariesOfWaysTest::shareOfEachPlace);
        on.promise(13, "The SHARE of the WAYS in which a place is of a STATE.", BoundariesOfWaysTest::shareOfAllAndNone);
        on.promise(13, "-1,", BoundariesOfWaysTest::noSuchPlaceOrStateOfAShare);
        on.promise(13, "-2 another part,", BoundariesOfWaysTest::anotherPartOfAShare);
        on.promise(13, "-3.", BoundariesOfWaysTest::noShareWithoutWays);
        on.promise(13, "-1, -2 another part, -3.", BoundariesOfWaysTest::orderOfRefusalsOfAShare);
    }

    private static void beginnings(Sentences on) {
        on.promise(14, "The SHARE of those in which a SEGMENT of a STATE begins at a place.",
            BoundariesOfWaysTest::beginningAtTheFirstAndLastPlace);
        on.promise(14, "-1,", BoundariesOfWaysTest::noSuchPlaceOrStateOfABeginning);
        on.promise(14, "-2,", BoundariesOfWaysTest::anotherPartOfABeginning);
        on.promise(14, "-3.", BoundariesOfWaysTest::noBeginningWithoutWays);
        on.promise(14, "-1, -2, -3.", BoundariesOfWaysTest::orderOfRefusalsOfABeginning);
    }

    private static void pairs(Sentences on) {
        on.promise(15, "The SHARE of those in which a SEGMENT of one STATE ends at a place and one of another",
            BoundariesOfWaysTest::pairOfTwoStates);
        on.promise(15, "(or the same) begins at the next.", BoundariesOfWaysTest::pairOfTheSame);
        on.promise(15, "-1 (the last place, too),", BoundariesOfWaysTest::theLastPlaceHasNoPair);
        on.promise(15, "-1", BoundariesOfWaysTest::noSuchPlaceOrStateOfAPair);
        on.promise(15, "-2,", BoundariesOfWaysTest::anotherPartOfAPair);
        on.promise(15, "-3.", BoundariesOfWaysTest::noPairWithoutWays);
        on.promise(15, "-1 (the last place, too), -2, -3.", BoundariesOfWaysTest::orderOfRefusalsOfAPair);
    }

    private static void tops(Sentences on) {
        on.promise(16, "The STATE with the greatest SHARE at a place,", BoundariesOfWaysTest::topAtEachPlace);
        on.promise(16, "the least of several.", BoundariesOfWaysTest::topOfEven);
        on.promise(16, "-1,", BoundariesOfWaysTest::noSuchPlaceOfATop);
        on.promise(16, "-3.", BoundariesOfWaysTest::noTopWithoutWays);
        on.promise(16, "-1, -3.", BoundariesOfWaysTest::orderOfRefusalsOfATop);
    }

    private static void bests(Sentences on) {
        on.promise(17, "The WEIGHT of WAY k, from 0, of THE BEST.", BoundariesOfWaysTest::bestFromZeroToNine);
        on.promise(17, "-2 k is not 0 .. 9,", BoundariesOfWaysTest::bestOutsideItsBounds);
        on.promise(17, "-3 there are not so many.", BoundariesOfWaysTest::notSoManyBest);
        on.promise(17, "-2 k is not 0 .. 9, -3 there are not so many.", BoundariesOfWaysTest::orderOfRefusalsOfABest);
        on.promise(18, "What it tells for a place.", BoundariesOfWaysTest::whatTheBestTell);
        on.promise(18, "-2,", BoundariesOfWaysTest::bestAtOutsideItsBounds);
        on.promise(18, "-3,", BoundariesOfWaysTest::notSoManyBestToTell);
        on.promise(18, "-1 no such place.", BoundariesOfWaysTest::noSuchPlaceOfTheBest);
        on.promise(18, "-2, -3, -1 no such place.", BoundariesOfWaysTest::orderOfRefusalsOfBestAt);
    }

    private static void drawings(Sentences on) {
        on.promise(19, "DRAWING: the WEIGHT of what is DRAWN.", BoundariesOfWaysTest::drawnByTheLeastAndGreatestSeed);
        on.promise(19, "DRAWING: the WEIGHT of what is DRAWN.", BoundariesOfWaysTest::drawnFromTheGreatestTotal);
        on.promise(19, "-3.", BoundariesOfWaysTest::nothingToDraw);
        on.promise(20, "What the latest DRAWN WAY tells for a place;", BoundariesOfWaysTest::theLatestDrawn);
        on.promise(20, "-3 there was none", BoundariesOfWaysTest::noneDrawnYet);
        on.promise(20, "since the latest state(), weight(), move(), sign(), clear() or hold()",
            BoundariesOfWaysTest::eachChangeForgetsTheDrawn);
        on.promise(20, "since the latest state(), weight(), move(), sign(), clear() or hold()",
            BoundariesOfWaysTest::noOtherCallForgetsTheDrawn);
        on.promise(20, "that was not refused", BoundariesOfWaysTest::noRefusedChangeForgetsTheDrawn);
        on.promise(20, "(also one that tells what was so).", BoundariesOfWaysTest::whatWasSoForgetsTheDrawn);
        on.promise(20, "-1 no such place.", BoundariesOfWaysTest::noSuchPlaceOfTheDrawn);
        on.promise(20, "-3 there was none since the latest state(), weight(), move(), sign(), clear() or hold() that was"
            + " not refused (also one that tells what was so). -1 no such place.",
            BoundariesOfWaysTest::orderOfRefusalsOfDrawnAt);
    }

    /** Two states that stay one place, show sign 0 and have no moves: over two places no way weighs anything. */
    private static HiddenRows noWay() {
        HiddenRows x = new HiddenRows();
        x.state();
        x.state();
        x.weight(0, 5, 1);
        x.weight(1, 5, 1);
        x.sign(0);
        x.sign(0);
        return x;
    }

    private static void totalOfNothing(Sentences t) {
        HiddenRows x = new HiddenRows();
        t.due("no states, no places", x.total(), 0);
        x.state();
        t.due("no places", x.total(), 0);
        x.sign(0);
        t.due("a state that shows nothing", x.total(), 0);
        x.weight(0, 5, 1);
        t.due("one way", x.total(), 1);
        x.weight(0, 0, 0);
        t.due("no FIRST", x.total(), 0);
        x.weight(0, 0, 1);
        x.weight(0, 1, 0);
        t.due("no LAST", x.total(), 0);
        x.weight(0, 1, 1);
        x.weight(0, 2, 0);
        t.due("no STAY 1", x.total(), 0);
        t.due("no MOVE", noWay().total(), 0);
    }

    private static void totalOfAllThereCanBe(Sentences t) {
        t.due("all weights 4, six missing signs", Examples.greatest().total(), 4983356407865671680L);
    }

    private static void waysThatWeighNothing(Sentences t) {
        t.due("no states, no places", new HiddenRows().ways(), 0);
        t.due("no places", Examples.oneState(0).ways(), 0);
        t.due("no moves", noWay().ways(), 0);
        t.due("three of six", Examples.twoStates().ways(), 3);
        HiddenRows held = Examples.twoStates();
        held.hold(1, 0);
        t.due("one less by a held place", held.ways(), 2);
    }

    private static void mostWaysThereCanBe(Sentences t) {
        t.due("all weights 4, six missing signs", Examples.greatest().ways(), 12240);
        HiddenRows x = Examples.oneStateOfAllStays(0);
        int[] ways = {0, 1, 2, 4, 7, 13, 24};
        for (int n = 0; n <= 6; n++) {
            t.due("rows of 1 to 3 that make " + n, x.ways(), ways[n]);
            x.sign(0);
        }
    }

    private static void shareOfEachPlace(Sentences t) {
        HiddenRows x = Examples.twoStates();
        t.dueRatio("share(0, 0)", x.share(0, 0, 0), x.share(0, 0, 1), 18, 19);
        t.dueRatio("share(0, 1)", x.share(0, 1, 0), x.share(0, 1, 1), 1, 19);
        t.dueRatio("share(1, 0)", x.share(1, 0, 0), x.share(1, 0, 1), 7, 19);
        t.dueRatio("share(1, 1)", x.share(1, 1, 0), x.share(1, 1, 1), 12, 19);
        HiddenRows one = Examples.oneStateOfAllStays(6);
        for (int place = 0; place < 6; place++) {
            t.dueRatio("one state alone", one.share(place, 0, 0), one.share(place, 0, 1), 1, 1);
        }
    }

    private static void shareOfAllAndNone(Sentences t) {
        HiddenRows x = Examples.greatest();
        t.dueRatio("one of four alike", x.share(5, 3, 0), x.share(5, 3, 1), 1, 4);
        x.hold(5, 2);
        t.dueRatio("all", x.share(5, 2, 0), x.share(5, 2, 1), 1, 1);
        t.dueRatio("none", x.share(5, 3, 0), x.share(5, 3, 1), 0, 1);
    }

    private static void noSuchPlaceOrStateOfAShare(Sentences t) {
        HiddenRows x = Examples.twoStates();
        for (int place : new int[] {-1, 2, 5, 6, LOW, HIGH}) {
            t.due("share(" + place + ", 0, 0)", x.share(place, 0, 0), -1);
        }
        for (int state : new int[] {-1, 2, 3, 4, LOW, HIGH}) {
            t.due("share(0, " + state + ", 0)", x.share(0, state, 0), -1);
        }
        HiddenRows full = Examples.greatest();
        t.due("share(6, 0, 0) of a full row", full.share(6, 0, 0), -1);
        t.due("share(5, 4, 0) of all states", full.share(5, 4, 0), -1);
        x.clear();
        t.due("share(0, 0, 0) of an empty row", x.share(0, 0, 0), -1);
    }

    private static void anotherPartOfAShare(Sentences t) {
        HiddenRows x = Examples.twoStates();
        for (int part : new int[] {-1, 2, 3, LOW, HIGH}) {
            t.due("share(0, 0, " + part + ")", x.share(0, 0, part), -2);
        }
    }

    private static void noShareWithoutWays(Sentences t) {
        HiddenRows x = noWay();
        t.due("share(0, 0, 0)", x.share(0, 0, 0), -3);
        t.due("share(1, 1, 1)", x.share(1, 1, 1), -3);
    }

    private static void orderOfRefusalsOfAShare(Sentences t) {
        HiddenRows x = noWay();
        t.due("place, part and none", x.share(2, 0, 2), -1);
        t.due("state, part and none", x.share(0, 2, -1), -1);
        t.due("place and none", x.share(-1, 0, 0), -1);
        t.due("state and none", x.share(0, -1, 1), -1);
        t.due("part and none", x.share(0, 0, 2), -2);
        HiddenRows ways = Examples.twoStates();
        t.due("place and part", ways.share(2, 0, 2), -1);
        t.due("state and part", ways.share(0, 2, 2), -1);
    }

    private static void beginningAtTheFirstAndLastPlace(Sentences t) {
        HiddenRows x = Examples.twoStates();
        t.dueRatio("begin(0, 0)", x.begin(0, 0, 0), x.begin(0, 0, 1), 18, 19);
        t.dueRatio("begin(0, 1)", x.begin(0, 1, 0), x.begin(0, 1, 1), 1, 19);
        t.dueRatio("begin(1, 0)", x.begin(1, 0, 0), x.begin(1, 0, 1), 1, 19);
        t.dueRatio("begin(1, 1)", x.begin(1, 1, 0), x.begin(1, 1, 1), 12, 19);
        HiddenRows one = Examples.oneStateOfAllStays(6);
        t.dueRatio("at the first place all begin", one.begin(0, 0, 0), one.begin(0, 0, 1), 1, 1);
        t.dueRatio("13 of 24 end in one place", one.begin(5, 0, 0), one.begin(5, 0, 1), 13, 24);
        one.weight(0, 2, 0);
        one.weight(0, 3, 0);
        t.dueRatio("three and three", one.begin(3, 0, 0), one.begin(3, 0, 1), 1, 1);
        t.dueRatio("none begins within", one.begin(4, 0, 0), one.begin(4, 0, 1), 0, 1);
    }

    private static void noSuchPlaceOrStateOfABeginning(Sentences t) {
        HiddenRows x = Examples.twoStates();
        for (int place : new int[] {-1, 2, 5, 6, LOW, HIGH}) {
            t.due("begin(" + place + ", 0, 0)", x.begin(place, 0, 0), -1);
        }
        for (int state : new int[] {-1, 2, 3, 4, LOW, HIGH}) {
            t.due("begin(0, " + state + ", 0)", x.begin(0, state, 0), -1);
        }
        t.due("begin(6, 0, 0) of a full row", Examples.greatest().begin(6, 0, 0), -1);
        x.clear();
        t.due("begin(0, 0, 0) of an empty row", x.begin(0, 0, 0), -1);
    }

    private static void anotherPartOfABeginning(Sentences t) {
        HiddenRows x = Examples.twoStates();
        for (int part : new int[] {-1, 2, 3, LOW, HIGH}) {
            t.due("begin(0, 0, " + part + ")", x.begin(0, 0, part), -2);
        }
    }

    private static void noBeginningWithoutWays(Sentences t) {
        HiddenRows x = noWay();
        t.due("begin(0, 0, 0)", x.begin(0, 0, 0), -3);
        t.due("begin(1, 1, 1)", x.begin(1, 1, 1), -3);
    }

    private static void orderOfRefusalsOfABeginning(Sentences t) {
        HiddenRows x = noWay();
        t.due("place, part and none", x.begin(2, 0, 2), -1);
        t.due("state, part and none", x.begin(0, 2, -1), -1);
        t.due("place and none", x.begin(-1, 0, 0), -1);
        t.due("state and none", x.begin(0, -1, 1), -1);
        t.due("part and none", x.begin(0, 0, 2), -2);
        HiddenRows ways = Examples.twoStates();
        t.due("place and part", ways.begin(2, 0, 2), -1);
        t.due("state and part", ways.begin(0, 2, 2), -1);
    }

    private static void pairOfTwoStates(Sentences t) {
        HiddenRows x = Examples.twoStates();
        t.dueRatio("pair(0, 0, 1)", x.pair(0, 0, 1, 0), x.pair(0, 0, 1, 1), 12, 19);
        t.dueRatio("pair(0, 1, 0)", x.pair(0, 1, 0, 0), x.pair(0, 1, 0, 1), 1, 19);
        t.dueRatio("going on is no pair", x.pair(0, 0, 0, 0), x.pair(0, 0, 0, 1), 0, 1);
        t.dueRatio("nothing moves so", x.pair(0, 1, 1, 0), x.pair(0, 1, 1, 1), 0, 1);
    }

    private static void pairOfTheSame(Sentences t) {
        HiddenRows x = Examples.oneStateOfAllStays(6);
        int[] cut = {13, 14, 16, 14, 13};
        int[] above = {13, 7, 2, 7, 13};
        int[] below = {24, 12, 3, 12, 24};
        for (int place = 0; place < 5; place++) {
            t.dueRatio(cut[place] + " of 24 are cut behind place " + place,
                x.pair(place, 0, 0, 0), x.pair(place, 0, 0, 1), above[place], below[place]);
        }
    }

    private static void theLastPlaceHasNoPair(Sentences t) {
        HiddenRows x = Examples.oneState(0);
        for (int n = 1; n <= 6; n++) {
            x.sign(0);
            t.due("the last place of " + n, x.pair(n - 1, 0, 0, 0), -1);
            t.due("the last place of " + n + ", part 1", x.pair(n - 1, 0, 0, 1), -1);
            if (n > 1) {
                t.due("the place before the last", x.pair(n - 2, 0, 0, 0), 1);
            }
        }
    }

    private static void noSuchPlaceOrStateOfAPair(Sentences t) {
        HiddenRows x = Examples.twoStates();
        for (int place : new int[] {-1, 2, 5, 6, LOW, HIGH}) {
            t.due("pair(" + place + ", 0, 1, 0)", x.pair(place, 0, 1, 0), -1);
        }
        for (int state : new int[] {-1, 2, 3, 4, LOW, HIGH}) {
            t.due("pair(0, " + state + ", 1, 0)", x.pair(0, state, 1, 0), -1);
            t.due("pair(0, 0, " + state + ", 0)", x.pair(0, 0, state, 0), -1);
        }
        x.clear();
        t.due("pair(0, 0, 1, 0) of an empty row", x.pair(0, 0, 1, 0), -1);
        t.due("pair(-1, 0, 1, 0) of an empty row", x.pair(-1, 0, 1, 0), -1);
    }

    private static void anotherPartOfAPair(Sentences t) {
        HiddenRows x = Examples.twoStates();
        for (int part : new int[] {-1, 2, 3, LOW, HIGH}) {
            t.due("pair(0, 0, 1, " + part + ")", x.pair(0, 0, 1, part), -2);
        }
    }

    private static void noPairWithoutWays(Sentences t) {
        HiddenRows x = noWay();
        t.due("pair(0, 0, 1, 0)", x.pair(0, 0, 1, 0), -3);
        t.due("pair(0, 1, 1, 1)", x.pair(0, 1, 1, 1), -3);
    }

    private static void orderOfRefusalsOfAPair(Sentences t) {
        HiddenRows x = noWay();
        t.due("last place, part and none", x.pair(1, 0, 1, 2), -1);
        t.due("from, part and none", x.pair(0, 2, 1, 2), -1);
        t.due("to, part and none", x.pair(0, 0, 2, 2), -1);
        t.due("last place and none", x.pair(1, 0, 1, 0), -1);
        t.due("to and none", x.pair(0, 0, -1, 0), -1);
        t.due("part and none", x.pair(0, 0, 1, 2), -2);
        HiddenRows ways = Examples.twoStates();
        t.due("last place and part", ways.pair(1, 0, 1, -1), -1);
        t.due("to and part", ways.pair(0, 0, 2, 2), -1);
    }

    private static void topAtEachPlace(Sentences t) {
        HiddenRows x = Examples.twoStates();
        t.due("top(0)", x.top(0), 0);
        t.due("top(1)", x.top(1), 1);
        x.hold(0, 1);
        t.due("top(0), held for state 1", x.top(0), 1);
        t.due("top(1), moved from it", x.top(1), 0);
        HiddenRows last = Examples.greatest();
        last.weight(3, 0, 4);
        for (int s = 0; s < 3; s++) {
            last.weight(s, 0, 3);
        }
        t.due("the last state of four", last.top(0), 3);
    }

    private static void topOfEven(Sentences t) {
        HiddenRows x = Examples.greatest();
        for (int place = 0; place < 6; place++) {
            t.due("four alike, top(" + place + ")", x.top(place), 0);
        }
        x.weight(0, 0, 3);
        t.due("three alike", x.top(0), 1);
        x.weight(1, 0, 0);
        t.due("two alike", x.top(0), 2);
    }

    private static void noSuchPlaceOfATop(Sentences t) {
        HiddenRows x = Examples.twoStates();
        for (int place : new int[] {-1, 2, 5, 6, LOW, HIGH}) {
            t.due("top(" + place + ")", x.top(place), -1);
        }
        t.due("top(6) of a full row", Examples.greatest().top(6), -1);
    }

    private static void noTopWithoutWays(Sentences t) {
        HiddenRows x = noWay();
        t.due("top(0)", x.top(0), -3);
        t.due("top(1)", x.top(1), -3);
    }

    private static void orderOfRefusalsOfATop(Sentences t) {
        HiddenRows x = noWay();
        t.due("place and none", x.top(2), -1);
        t.due("place and none, below", x.top(-1), -1);
        x.clear();
        t.due("an empty row", x.top(0), -1);
    }

    /** Over four places with all stays: STAY 2 is 3, the others 1; 9, then three times 3, then three times 1. */
    private static HiddenRows sevenWays() {
        HiddenRows x = Examples.oneStateOfAllStays(4);
        x.weight(0, 3, 3);
        return x;
    }

    private static void bestFromZeroToNine(Sentences t) {
        HiddenRows x = sevenWays();
        int[] weights = {9, 3, 3, 3, 1, 1, 1};
        for (int k = 0; k < weights.length; k++) {
            t.due("best(" + k + ")", x.best(k), weights[k]);
        }
        HiddenRows many = Examples.greatest();
        for (int k = 0; k < 10; k++) {
            t.due("best(" + k + ") of 12240", many.best(k), 1L << 50);
        }
    }

    private static void bestOutsideItsBounds(Sentences t) {
        for (HiddenRows x : new HiddenRows[] {sevenWays(), Examples.greatest()}) {
            for (int k : new int[] {-1, 10, 11, LOW, HIGH}) {
                t.due("best(" + k + ")", x.best(k), -2);
            }
        }
    }

    private static void notSoManyBest(Sentences t) {
        HiddenRows x = sevenWays();
        t.due("best(0) of one place", Examples.oneState(1).best(0), 1);
        t.due("best(1) of one place", Examples.oneState(1).best(1), -3);
        t.due("best(6), the last", x.best(6), 1);
        t.due("best(7)", x.best(7), -3);
        t.due("best(9)", x.best(9), -3);
        t.due("best(0) of none", noWay().best(0), -3);
        t.due("best(0) of an empty row", Examples.oneState(0).best(0), -3);
        t.due("best(0) without states", new HiddenRows().best(0), -3);
        HiddenRows less = sevenWays();
        less.best(0);
        less.weight(0, 2, 0);
        t.due("best(0), two stays of 2", less.best(0), 9);
        t.due("best(1), there are less now", less.best(1), -3);
    }

    private static void orderOfRefusalsOfABest(Sentences t) {
        HiddenRows x = noWay();
        t.due("best(10) of none", x.best(10), -2);
        t.due("best(-1) of none", x.best(-1), -2);
        t.due("best(9) of none", x.best(9), -3);
    }

    private static void whatTheBestTell(Sentences t) {
        HiddenRows x = sevenWays();
        int[][] tells = {{0, 1, 0, 1}, {0, 0, 0, 1}, {0, 0, 1, 0}, {0, 1, 0, 0}, {0, 0, 0, 0}, {0, 0, 1, 1}, {0, 1, 1, 0}};
        for (int k = 0; k < tells.length; k++) {
            for (int place = 0; place < 4; place++) {
                t.due("bestAt(" + k + ", " + place + ")", x.bestAt(k, place), tells[k][place]);
            }
        }
        HiddenRows many = Examples.greatest();
        int[] tenth = {0, 0, 0, 0, 4, 2};
        for (int place = 0; place < 6; place++) {
            t.due("bestAt(9, " + place + ") of 12240", many.bestAt(9, place), tenth[place]);
        }
    }

    private static void bestAtOutsideItsBounds(Sentences t) {
        HiddenRows x = sevenWays();
        for (int k : new int[] {-1, 10, 11, LOW, HIGH}) {
            t.due("bestAt(" + k + ", 0)", x.bestAt(k, 0), -2);
        }
    }

    private static void notSoManyBestToTell(Sentences t) {
        HiddenRows x = sevenWays();
        t.due("bestAt(7, 0)", x.bestAt(7, 0), -3);
        t.due("bestAt(9, 3)", x.bestAt(9, 3), -3);
        t.due("bestAt(0, 0) of none", noWay().bestAt(0, 0), -3);
    }

    private static void noSuchPlaceOfTheBest(Sentences t) {
        HiddenRows x = sevenWays();
        for (int place : new int[] {-1, 4, 5, 6, LOW, HIGH}) {
            t.due("bestAt(0, " + place + ")", x.bestAt(0, place), -1);
            t.due("bestAt(6, " + place + ")", x.bestAt(6, place), -1);
        }
        t.due("bestAt(9, 6) of a full row", Examples.greatest().bestAt(9, 6), -1);
    }

    private static void orderOfRefusalsOfBestAt(Sentences t) {
        HiddenRows x = sevenWays();
        t.due("bounds and place", x.bestAt(10, 4), -2);
        t.due("none and place", x.bestAt(7, 4), -3);
        t.due("none and place, below", x.bestAt(7, -1), -3);
        t.due("bounds, none and place", noWay().bestAt(-1, -1), -2);
        t.due("an empty row", Examples.oneState(0).bestAt(0, 0), -3);
    }

    /** For each seed the numbers were worked out apart; u is that number modulo 19. */
    private static void drawnByTheLeastAndGreatestSeed(Sentences t) {
        HiddenRows x = Examples.twoStates();
        t.due("u is 15, drawn(0)", x.drawn(0), 12);
        t.due("u is 12, drawn(-1)", x.drawn(-1), 12);
        t.due("u is 1, drawn(1)", x.drawn(1), 6);
        t.due("u is 18, drawn(HIGH)", x.drawn(HIGH), 1);
        t.due("u is 2, drawn(LOW)", x.drawn(LOW), 6);
    }

    /** TOTAL is above 2 to the 62nd, so that nothing is taken off u. */
    private static void drawnFromTheGreatestTotal(Sentences t) {
        HiddenRows x = Examples.greatest();
        int[] seeds = {0, 1, -1, HIGH, LOW, 12345, 7};
        int[][] tells = {{0, 6, 2, 6, 6, 6}, {0, 6, 4, 0, 0, 0}, {0, 6, 2, 6, 6, 2}, {4, 4, 6, 6, 0, 0},
            {4, 4, 6, 6, 0, 4}, {0, 0, 2, 0, 4, 6}, {0, 6, 4, 0, 4, 2}};
        for (int i = 0; i < seeds.length; i++) {
            t.due("drawn(" + seeds[i] + ")", x.drawn(seeds[i]), 1L << 50);
            for (int place = 0; place < 6; place++) {
                t.due("drawnAt(" + place + ")", x.drawnAt(place), tells[i][place]);
            }
        }
    }

    private static void nothingToDraw(Sentences t) {
        for (int seed : new int[] {0, 1, -1, LOW, HIGH}) {
            t.due("drawn(" + seed + ") of none", noWay().drawn(seed), -3);
            t.due("drawn(" + seed + ") of an empty row", Examples.oneState(0).drawn(seed), -3);
            t.due("drawn(" + seed + ") of a new object", new HiddenRows().drawn(seed), -3);
        }
    }

    private static void theLatestDrawn(Sentences t) {
        HiddenRows x = Examples.twoStates();
        x.drawn(1);
        t.due("0, 1 drawn: drawnAt(0)", x.drawnAt(0), 0);
        t.due("0, 1 drawn: drawnAt(1)", x.drawnAt(1), 1);
        x.drawn(HIGH);
        t.due("2, 0 drawn: drawnAt(0)", x.drawnAt(0), 2);
        t.due("2, 0 drawn: drawnAt(1)", x.drawnAt(1), 0);
        x.drawn(0);
        t.due("0, 2 drawn: drawnAt(0)", x.drawnAt(0), 0);
        t.due("0, 2 drawn: drawnAt(1)", x.drawnAt(1), 2);
        t.due("asked again", x.drawnAt(1), 2);
    }

    private static void noneDrawnYet(Sentences t) {
        t.due("a new object", new HiddenRows().drawnAt(0), -3);
        HiddenRows x = Examples.twoStates();
        t.due("nothing drawn", x.drawnAt(0), -3);
        HiddenRows none = noWay();
        none.drawn(0);
        t.due("a refused drawn()", none.drawnAt(0), -3);
        none.move(0, 1, 1);
        t.due("a way since, but none drawn", none.drawnAt(0), -3);
        none.drawn(0);
        t.due("drawn", none.drawnAt(0), 0);
    }

    private static void forgets(Sentences t, String call, Consumer<HiddenRows> change) {
        HiddenRows x = Examples.twoStates();
        x.drawn(0);
        change.accept(x);
        t.due("drawnAt(0) after " + call, x.drawnAt(0), -3);
        t.due("drawnAt(1) after " + call, x.drawnAt(1), -3);
    }

    private static void keeps(Sentences t, String call, Consumer<HiddenRows> other) {
        HiddenRows x = Examples.twoStates();
        x.kind();
        x.drawn(0);
        other.accept(x);
        t.due("drawnAt(0) after " + call, x.drawnAt(0), 0);
        t.due("drawnAt(1) after " + call, x.drawnAt(1), 2);
    }

    private static void eachChangeForgetsTheDrawn(Sentences t) {
        forgets(t, "state()", x -> x.state());
        forgets(t, "weight()", x -> x.weight(0, 5, 3));
        forgets(t, "move()", x -> x.move(0, 1, 3));
        forgets(t, "sign()", x -> x.sign(0));
        forgets(t, "clear()", x -> x.clear());
        forgets(t, "hold()", x -> x.hold(0, 0));
    }

    private static void noOtherCallForgetsTheDrawn(Sentences t) {
        keeps(t, "kind()", x -> x.kind());
        keeps(t, "rule()", x -> x.rule(0, 0, 0, 1));
        keeps(t, "leaf()", x -> x.leaf(0, 0, 1));
        keeps(t, "total()", x -> x.total());
        keeps(t, "ways()", x -> x.ways());
        keeps(t, "share()", x -> x.share(0, 0, 0));
        keeps(t, "begin()", x -> x.begin(0, 0, 0));
        keeps(t, "pair()", x -> x.pair(0, 0, 1, 0));
        keeps(t, "top()", x -> x.top(0));
        keeps(t, "best()", x -> x.best(0));
        keeps(t, "bestAt()", x -> x.bestAt(0, 0));
        keeps(t, "drawnAt()", x -> x.drawnAt(1));
        keeps(t, "trees()", x -> x.trees(0));
        keeps(t, "treeCount()", x -> x.treeCount(0));
        keeps(t, "treeBest()", x -> x.treeBest(0));
        keeps(t, "treeAt()", x -> x.treeAt(0, 0));
        keeps(t, "span()", x -> x.span(0, 0, 0, 0, 0));
    }

    private static void noRefusedChangeForgetsTheDrawn(Sentences t) {
        keeps(t, "weight(), no such state", x -> x.weight(2, 0, 1));
        keeps(t, "weight(), no such what", x -> x.weight(0, 9, 1));
        keeps(t, "weight(), out of bounds", x -> x.weight(0, 0, 5));
        keeps(t, "move(), no such state", x -> x.move(0, 2, 1));
        keeps(t, "move(), out of bounds", x -> x.move(0, 1, -1));
        keeps(t, "sign(), out of bounds", x -> x.sign(4));
        keeps(t, "hold(), no such place", x -> x.hold(2, 0));
        keeps(t, "hold(), no such state", x -> x.hold(0, 2));
        HiddenRows full = Examples.greatest();
        full.drawn(0);
        full.state();
        full.sign(0);
        t.due("state() and sign(), no room", full.drawnAt(1), 6);
    }

    private static void whatWasSoForgetsTheDrawn(Sentences t) {
        forgets(t, "a weight as it was", x -> x.weight(0, 5, 2));
        forgets(t, "a move as it was", x -> x.move(0, 1, 2));
        forgets(t, "a place that was not held, let go", x -> x.hold(0, -1));
        HiddenRows held = Examples.twoStates();
        held.hold(0, 0);
        held.drawn(0);
        held.hold(0, 0);
        t.due("drawnAt(0) after a hold as it was", held.drawnAt(0), -3);
        HiddenRows again = Examples.twoStates();
        again.drawn(0);
        again.weight(0, 5, 2);
        again.drawn(0);
        t.due("drawnAt(1) when drawn again", again.drawnAt(1), 2);
    }

    private static void noSuchPlaceOfTheDrawn(Sentences t) {
        HiddenRows x = Examples.twoStates();
        x.drawn(0);
        for (int place : new int[] {-1, 2, 5, 6, LOW, HIGH}) {
            t.due("drawnAt(" + place + ")", x.drawnAt(place), -1);
        }
        HiddenRows full = Examples.greatest();
        full.drawn(0);
        t.due("drawnAt(5) of a full row", full.drawnAt(5), 6);
        t.due("drawnAt(6) of a full row", full.drawnAt(6), -1);
    }

    private static void orderOfRefusalsOfDrawnAt(Sentences t) {
        HiddenRows x = Examples.twoStates();
        for (int place : new int[] {-1, 2, 6, LOW, HIGH}) {
            t.due("none drawn and no such place: drawnAt(" + place + ")", x.drawnAt(place), -3);
        }
        x.drawn(0);
        x.clear();
        t.due("an empty row", x.drawnAt(0), -3);
    }
}
