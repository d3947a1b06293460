import java.io.IOException;
import java.nio.file.Files;
import java.nio.file.Path;
import java.util.function.Supplier;
import java.util.function.ToLongFunction;

/** The document's terms, and how long an object is used, sentence by sentence. */
public final class BoundariesOfTermsTest {
    private static final int LOW = Integer.MIN_VALUE;
    private static final int HIGH = Integer.MAX_VALUE;
    private static final String TERMS = "Terms";
    private static final int[] NO_WEIGHTS = {-1, 5, LOW, HIGH};

    public static void main(String[] args) throws IOException {
        Sentences sentences = new Sentences();
        sentences.holds("What it is", "An object is used for at most 512 calls after it has been made;",
            BoundariesOfTermsTest::theLastOf512Calls);
        sentences.holds("What it is", "what later calls answer is free.", BoundariesOfTermsTest::laterCallsEnd);
        statesAndRow(sentences);
        ways(sentences);
        sharesAndBests(sentences);
        drawing(sentences);
        trees(sentences);
        refusals(sentences);
        headings(sentences);
        sentences.end(TERMS);
    }

    private static void statesAndRow(Sentences on) {
        on.holds(TERMS, "STATES are numbered 0 .. (4 at most).", BoundariesOfTermsTest::fourStatesAtMost);
        on.holds(TERMS, "WEIGHTS are whole numbers, 0 to 4:", BoundariesOfTermsTest::weightsFromZeroToFour);
        on.holds(TERMS, "of a STATE: FIRST, LAST, STAY 1, 2, 3, SHOW of each SIGN 0 .. 3;",
            BoundariesOfTermsTest::nineWeightsOfEachState);
        on.holds(TERMS, "of two STATES (which may be the same) MOVE.", BoundariesOfTermsTest::movesOfTheSame);
        on.holds(TERMS, "At first FIRST, LAST, STAY 1 are 1, all others 0.", BoundariesOfTermsTest::weightsAtFirst);
        on.holds(TERMS, "THE ROW has up to 6 SIGNS at places 0, 1, ..;", BoundariesOfTermsTest::sixPlacesAtMost);
        on.holds(TERMS, "a SIGN may be MISSING.", BoundariesOfTermsTest::allSignsMissing);
        on.holds(TERMS, "A place may be HELD for a STATE.", BoundariesOfTermsTest::allPlacesHeld);
    }

    private static void ways(Sentences on) {
        on.holds(TERMS, "A WAY is a row of SEGMENTS, each a STATE and 1 to 3 places,",
            BoundariesOfTermsTest::noSegmentOfFourPlaces);
        on.holds(TERMS, "which together are all of THE ROW's places.", BoundariesOfTermsTest::noSegmentBeyondTheRow);
        on.holds(TERMS, "It TELLS for each place 2 s, where a SEGMENT of STATE s begins, 2 s + 1 where it goes on;",
            BoundariesOfTermsTest::leastAndGreatestTold);
        on.holds(TERMS, "of two WAYS that is BEFORE the other which tells the lesser number at the first place at which"
            + " they differ.", BoundariesOfTermsTest::theFirstPlaceDecides);
        on.holds(TERMS, "Its WEIGHT is the product of: FIRST of the first STATE, LAST of the last one, for each SEGMENT"
            + " STAY of so many places, for each two next to one another MOVE, for each place SHOW of its SIGN",
            BoundariesOfTermsTest::oneSegmentIsFirstAndLast);
        on.holds(TERMS, "(MISSING: the sum of SHOW of all SIGNS);", BoundariesOfTermsTest::missingShowsAll);
        on.holds(TERMS, "0, if a place HELD is of another STATE.", BoundariesOfTermsTest::heldForAnother);
        on.holds(TERMS, "TOTAL is the sum over all WAYS.", BoundariesOfTermsTest::leastAndGreatestTotal);
        on.holds(TERMS, "(Without places there is no WAY.)", BoundariesOfTermsTest::noWayWithoutPlaces);
    }

    private static void sharesAndBests(Sentences on) {
        on.holds(TERMS, "A SHARE is the sum of the WEIGHTS of some WAYS by TOTAL, in lowest terms",
            BoundariesOfTermsTest::lowestTerms);
        on.holds(TERMS, "(0 is 0 / 1):", BoundariesOfTermsTest::zeroIsZeroByOne);
        on.holds(TERMS, "part 0 above, 1 below.", BoundariesOfTermsTest::partsAboveAndBelow);
        on.holds(TERMS, "THE BEST: WAYS whose WEIGHT is above 0,", BoundariesOfTermsTest::noneOfZeroIsBest);
        on.holds(TERMS, "the greatest first,", BoundariesOfTermsTest::greatestFirst);
        on.holds(TERMS, "of the same WEIGHT as they are BEFORE one another.", BoundariesOfTermsTest::sameWeightInOrder);
    }

    private static void drawing(Sentences on) {
        on.holds(TERMS, "DRAWING by a seed z: twice z becomes z * 1664525 + 1013904223 (32 bits that wrap);",
            BoundariesOfTermsTest::seedsThatWrap);
        on.holds(TERMS, "x and y are z, moved right by 1, zeros coming in, the first and the second time;",
            BoundariesOfTermsTest::zerosComeIn);
        on.holds(TERMS, "u is (2147483648 x + y) modulo TOTAL.", BoundariesOfTermsTest::moduloTheLeastAndGreatestTotal);
        on.holds(TERMS, "What is DRAWN is the first of all WAYS, as they are BEFORE one another, with which the sum of"
            + " the WEIGHTS so far comes to be above u.", BoundariesOfTermsTest::justAboveU);
        on.holds(TERMS, "What is DRAWN is the first of all WAYS, as they are BEFORE one another,",
            BoundariesOfTermsTest::eachWayOfAllStaysIsDrawn);
    }

    private static void trees(Sentences on) {
        on.holds(TERMS, "KINDS are numbered 0 .. (4 at most);", BoundariesOfTermsTest::fourKindsAtMost);
        on.holds(TERMS, "of three KINDS (which may be the same) a RULE has a WEIGHT, of a KIND and a SIGN a LEAF",
            BoundariesOfTermsTest::rulesAndLeavesOfTheSame);
        on.holds(TERMS, "(0 at first, all).", BoundariesOfTermsTest::rulesAndLeavesAtFirst);
        on.holds(TERMS, "A TREE of a KIND over some places next to one another: over one place it is a LEAF;",
            BoundariesOfTermsTest::noRuleOverOnePlace);
        on.holds(TERMS, "over more it is a RULE of that KIND, a place m at which its second part begins, and two TREES, of"
            + " the second and third KIND of the RULE, over the places before m and those from m on.",
            BoundariesOfTermsTest::noLeafOverMore);
        on.holds(TERMS, "Its WEIGHT is the product of those of its RULES and LEAVES", BoundariesOfTermsTest::treeWeighs);
        on.holds(TERMS, "(MISSING: the sum of LEAVES of all SIGNS).", BoundariesOfTermsTest::missingLeaves);
        on.holds(TERMS, "It TELLS, the whole first, then its first part, then its second: 0 for a LEAF, else"
            + " 100 m + 10 b + c, b and c being the second and third KIND;", BoundariesOfTermsTest::treeTells);
        on.holds(TERMS, "BEFORE as above.", BoundariesOfTermsTest::treeBefore);
    }

    private static void refusals(Sentences on) {
        on.holds(TERMS, "REFUSALS change nothing", BoundariesOfTermsTest::refusalsChangeNothing);
        on.holds(TERMS, "REFUSALS change nothing", BoundariesOfTermsTest::refusalsOfNoneChangeNothing);
        on.holds(TERMS, "REFUSALS change nothing", BoundariesOfTermsTest::refusalsForWantOfRoomChangeNothing);
        on.holds(TERMS, "and answer, of several the one that the call names first:",
            BoundariesOfTermsTest::theOneNamedFirst);
        on.holds(TERMS, "-1 there is no such STATE, KIND, SIGN, place, number,", BoundariesOfTermsTest::noSuch);
        on.holds(TERMS, "-2 outside its bounds,", BoundariesOfTermsTest::outsideItsBounds);
        on.holds(TERMS, "-3 there is none (TOTAL is 0),", BoundariesOfTermsTest::thereIsNone);
        on.holds(TERMS, "-4 there is no room.", BoundariesOfTermsTest::noRoom);
    }

    private static void headings(Sentences on) throws IOException {
        String source = Files.readString(Path.of("src/main/java/HiddenRows.java"));
        int ways = source.indexOf("// ---- ways");
        int trees = source.indexOf("// ---- trees");
        String[] ofWays = {"total", "ways", "share", "begin", "pair", "top", "best", "bestAt", "drawn", "drawnAt"};
        String[] ofTrees = {"trees", "treeCount", "treeBest", "treeAt", "span"};
        on.holds(TERMS, "Ahead of the calls `total`, `ways`, `share`, `begin`, `pair`, `top`, `best`, `bestAt`, `drawn`,"
            + " `drawnAt` the interface says: ---- ways.", t -> callsBetween(t, source, ways, trees, ofWays));
        on.holds(TERMS, "Ahead of the calls `trees`, `treeCount`, `treeBest`, `treeAt`, `span` the interface says:"
            + " ---- trees.", t -> callsBetween(t, source, trees, source.length(), ofTrees));
    }

    private static void callsBetween(Sentences t, String source, int from, int to, String[] calls) {
        if (from < 0) {
            t.complain("the heading is not there");
        }
        for (String call : calls) {
            int at = source.indexOf(" " + call + "(");
            if (at < from || at > to) {
                t.complain(call + " does not stand there");
            }
        }
    }

    /**
     * Takes an object through exactly 512 calls (11 make it), each of them due. With a missing sign behind, the ways
     * 0 1 2, 0 2 0, 2 0 1, 2 0 2 weigh 48, 36, 9, 8, and by seed 0 u is 60.
     */
    private static void theLastOf512Calls(Sentences t) {
        HiddenRows x = Examples.twoStates();
        int calls = 11;
        while (calls + 10 <= 512) {
            t.due("sign(-1), call " + calls, x.sign(-1), 3);
            t.due("best(0)", x.best(0), 48);
            t.due("total()", x.total(), 101);
            t.due("drawn(0)", x.drawn(0), 36);
            t.due("clear()", x.clear(), 3);
            t.due("sign(0)", x.sign(0), 1);
            t.due("sign(1)", x.sign(1), 2);
            t.due("total()", x.total(), 19);
            t.due("drawn(0)", x.drawn(0), 12);
            t.due("drawnAt(1)", x.drawnAt(1), 2);
            calls += 10;
        }
        for (; calls < 511; calls++) {
            t.due("share(1, 1, 0), call " + calls, x.share(1, 1, 0), 12);
        }
        t.due("drawn(HIGH), the last call", x.drawn(HIGH), 1);
    }

    private static void laterCallsEnd(Sentences t) {
        HiddenRows x = Examples.twoStates();
        for (int i = 0; i < 5000; i++) {
            x.sign(i % 7 - 2);
            x.drawn(i);
            x.best(i % 12);
            x.clear();
        }
    }

    private static void fourStatesAtMost(Sentences t) {
        HiddenRows x = new HiddenRows();
        for (int s = 0; s < 4; s++) {
            t.due("state()", x.state(), s);
        }
        t.due("a fifth state()", x.state(), -4);
        t.due("weight(3, 0, 0)", x.weight(3, 0, 0), 1);
        t.due("weight(4, 0, 0)", x.weight(4, 0, 0), -1);
    }

    private static void weightsFromZeroToFour(Sentences t) {
        HiddenRows x = new HiddenRows();
        x.state();
        x.kind();
        for (int w : NO_WEIGHTS) {
            for (int what = 0; what < 9; what++) {
                t.due("weight(0, " + what + ", " + w + ")", x.weight(0, what, w), -2);
            }
            t.due("move(0, 0, " + w + ")", x.move(0, 0, w), -2);
            t.due("rule(0, 0, 0, " + w + ")", x.rule(0, 0, 0, w), -2);
            t.due("leaf(0, 0, " + w + ")", x.leaf(0, 0, w), -2);
        }
        for (int w = 0; w <= 5; w++) {
            for (int what = 0; what < 9; what++) {
                t.due("weight(0, " + what + ", " + w + ")", x.weight(0, what, w), before(w, what < 3 ? 1 : 0));
            }
            t.due("move(0, 0, " + w + ")", x.move(0, 0, w), before(w, 0));
            t.due("rule(0, 0, 0, " + w + ")", x.rule(0, 0, 0, w), before(w, 0));
            t.due("leaf(0, 0, " + w + ")", x.leaf(0, 0, w), before(w, 0));
        }
    }

    /** What a call with weight w answers, if those with all lesser ones have gone before it. */
    private static int before(int w, int atFirst) {
        return w > 4 ? -2 : w == 0 ? atFirst : w - 1;
    }

    private static void nineWeightsOfEachState(Sentences t) {
        HiddenRows x = Examples.full();
        for (int i = 0; i < 36; i++) {
            x.weight(i / 9, i % 9, i * 3 % 5);
        }
        for (int i = 0; i < 36; i++) {
            t.due("weight(" + i / 9 + ", " + i % 9 + ", 0)", x.weight(i / 9, i % 9, 0), i * 3 % 5);
        }
        t.due("weight(0, 9, 0)", x.weight(0, 9, 0), -1);
        t.due("weight(1, -1, 0)", x.weight(1, -1, 0), -1);
    }

    private static void movesOfTheSame(Sentences t) {
        HiddenRows x = Examples.oneState(6);
        t.due("a state that moves to itself", x.total(), 1);
        t.due("move(0, 0, 2)", x.move(0, 0, 2), 1);
        t.due("five moves", x.total(), 32);
        t.due("move(0, 0, 0)", x.move(0, 0, 0), 2);
        t.due("no move", x.total(), 0);
    }

    private static void weightsAtFirst(Sentences t) {
        HiddenRows x = Examples.full();
        for (int s = 0; s < 4; s++) {
            for (int what = 0; what < 9; what++) {
                t.due("weight(" + s + ", " + what + ", 4)", x.weight(s, what, 4), what < 3 ? 1 : 0);
            }
            for (int to = 0; to < 4; to++) {
                t.due("move(" + s + ", " + to + ", 4)", x.move(s, to, 4), 0);
            }
        }
    }

    private static void sixPlacesAtMost(Sentences t) {
        HiddenRows x = Examples.oneState(0);
        for (int n = 1; n <= 6; n++) {
            t.due("place " + (n - 1) + " before it is there", x.top(n - 1), -1);
            t.due("sign(0)", x.sign(0), n);
            t.due("place " + (n - 1), x.top(n - 1), 0);
        }
        t.due("a seventh sign", x.sign(0), -4);
        t.due("place 6", x.top(6), -1);
    }

    private static void allSignsMissing(Sentences t) {
        HiddenRows x = new HiddenRows();
        x.state();
        x.move(0, 0, 1);
        x.weight(0, 5, 1);
        x.weight(0, 8, 1);
        long total = 1;
        for (int n = 1; n <= 6; n++) {
            t.due("sign(-1)", x.sign(-1), n);
            total *= 2;
            t.due("total() of " + n + " missing", x.total(), total);
        }
    }

    private static void allPlacesHeld(Sentences t) {
        HiddenRows x = Examples.greatest();
        int[] told = {6, 0, 4, 2, 0, 6};
        for (int place = 0; place < 6; place++) {
            x.hold(place, told[place] / 2);
        }
        t.due("one way is left", x.ways(), 1);
        for (int place = 0; place < 6; place++) {
            t.due("what it tells for place " + place, x.bestAt(0, place), told[place]);
        }
    }

    private static void noSegmentOfFourPlaces(Sentences t) {
        HiddenRows x = Examples.oneState(0);
        x.weight(0, 2, 0);
        x.weight(0, 4, 3);
        int[] totals = {0, 0, 0, 3, 0, 0, 9};
        for (int n = 1; n <= 6; n++) {
            x.sign(0);
            t.due("STAY 3 alone over " + n, x.total(), totals[n]);
        }
    }

    private static void noSegmentBeyondTheRow(Sentences t) {
        HiddenRows x = Examples.oneState(1);
        x.weight(0, 3, 4);
        x.weight(0, 4, 4);
        t.due("one place", x.total(), 1);
        t.due("one place, one way", x.ways(), 1);
        x.weight(0, 2, 0);
        t.due("one place, no STAY 1", x.total(), 0);
        x.sign(0);
        t.due("two places, STAY 2", x.total(), 4);
        x.sign(0);
        t.due("three places, STAY 3", x.total(), 4);
        x.sign(0);
        x.sign(0);
        t.due("five places, 2 and 3 or 3 and 2", x.total(), 32);
    }

    private static void leastAndGreatestTold(Sentences t) {
        HiddenRows x = Examples.greatest();
        for (int s = 0; s < 4; s++) {
            x.weight(s, 2, 0);
            x.weight(s, 3, 0);
        }
        for (int s = 0; s < 4; s++) {
            for (int place = 0; place < 6; place++) {
                x.hold(place, s);
            }
            for (int place = 0; place < 6; place++) {
                t.due("state " + s + ", place " + place, x.bestAt(0, place), place % 3 == 0 ? 2 * s : 2 * s + 1);
            }
        }
    }

    /** All ways of two states over two places weigh 1: 00 01 02 20 22 23, told each by two numbers. */
    private static HiddenRows sixAlike() {
        HiddenRows x = new HiddenRows();
        for (int s = 0; s < 2; s++) {
            x.state();
        }
        for (int s = 0; s < 2; s++) {
            x.weight(s, 3, 1);
            x.weight(s, 5, 1);
            x.move(s, 0, 1);
            x.move(s, 1, 1);
        }
        x.sign(0);
        x.sign(0);
        return x;
    }

    private static void theFirstPlaceDecides(Sentences t) {
        HiddenRows x = sixAlike();
        int[] told = {0, 1, 2, 20, 22, 23};
        for (int k = 0; k < told.length; k++) {
            t.due("way " + k + " tells", 10 * x.bestAt(k, 0) + x.bestAt(k, 1), told[k]);
        }
        t.due("there is no other", x.best(6), -3);
    }

    private static void oneSegmentIsFirstAndLast(Sentences t) {
        HiddenRows x = new HiddenRows();
        x.state();
        x.weight(0, 0, 2);
        x.weight(0, 1, 3);
        x.weight(0, 4, 4);
        x.weight(0, 5, 2);
        x.weight(0, 6, 3);
        x.weight(0, 7, 4);
        x.sign(0);
        x.sign(1);
        x.sign(2);
        t.due("one segment of three places, no move", x.total(), 2 * 3 * 4 * 2 * 3 * 4);
        HiddenRows y = Examples.twoStates();
        y.hold(0, 1);
        y.weight(1, 0, 4);
        y.weight(0, 1, 3);
        y.weight(0, 0, 0);
        y.weight(1, 1, 0);
        t.due("FIRST of the first and LAST of the last alone", y.total(), 12);
    }

    private static void missingShowsAll(Sentences t) {
        HiddenRows x = new HiddenRows();
        x.state();
        x.sign(-1);
        t.due("all SHOW 0", x.total(), 0);
        x.weight(0, 8, 3);
        t.due("SHOW of the last sign alone", x.total(), 3);
        x.weight(0, 5, 4);
        x.weight(0, 6, 4);
        x.weight(0, 7, 4);
        x.weight(0, 8, 4);
        t.due("all SHOW 4", x.total(), 16);
        t.due("it is one way", x.ways(), 1);
    }

    private static void heldForAnother(Sentences t) {
        HiddenRows x = sixAlike();
        x.hold(1, 1);
        t.due("0 2, 2 2, 2 3", x.total(), 3);
        x.hold(0, 0);
        t.due("0 2", x.total(), 1);
        x.hold(1, 0);
        t.due("0 0, 0 1", x.total(), 2);
    }

    private static void leastAndGreatestTotal(Sentences t) {
        t.due("one way of weight 1", Examples.oneState(1).total(), 1);
        t.due("three ways", Examples.twoStates().total(), 19);
        t.due("12240 ways", Examples.greatest().total(), 4983356407865671680L);
    }

    private static void noWayWithoutPlaces(Sentences t) {
        HiddenRows x = Examples.greatest();
        t.due("total() with places", x.total(), 4983356407865671680L);
        t.due("best(0) with places", x.best(0), 1L << 50);
        x.clear();
        t.due("total()", x.total(), 0);
        t.due("ways()", x.ways(), 0);
        t.due("best(0)", x.best(0), -3);
        t.due("drawn(0)", x.drawn(0), -3);
    }

    private static void lowestTerms(Sentences t) {
        HiddenRows x = Examples.twoStatesTied();
        t.dueRatio("24 / 26", x.share(0, 0, 0), x.share(0, 0, 1), 12, 13);
        t.dueRatio("14 / 26", x.share(1, 0, 0), x.share(1, 0, 1), 7, 13);
        t.dueRatio("2 / 26", x.begin(0, 1, 0), x.begin(0, 1, 1), 1, 13);
        t.dueRatio("12 / 26", x.pair(0, 0, 1, 0), x.pair(0, 0, 1, 1), 6, 13);
        HiddenRows one = Examples.twoStates();
        t.dueRatio("1 / 19", one.share(0, 1, 0), one.share(0, 1, 1), 1, 19);
        one.hold(0, 0);
        t.dueRatio("18 / 18", one.share(0, 0, 0), one.share(0, 0, 1), 1, 1);
    }

    private static void zeroIsZeroByOne(Sentences t) {
        HiddenRows x = Examples.twoStates();
        x.hold(0, 0);
        t.dueRatio("share(0, 1)", x.share(0, 1, 0), x.share(0, 1, 1), 0, 1);
        t.dueRatio("begin(0, 1)", x.begin(0, 1, 0), x.begin(0, 1, 1), 0, 1);
        t.dueRatio("pair(0, 1, 0)", x.pair(0, 1, 0, 0), x.pair(0, 1, 0, 1), 0, 1);
        HiddenRows kinds = Examples.twoKinds();
        t.dueRatio("span(0, 1, 0, 2)", kinds.span(0, 1, 0, 2, 0), kinds.span(0, 1, 0, 2, 1), 0, 1);
    }

    private static void partsAboveAndBelow(Sentences t) {
        HiddenRows x = Examples.twoStates();
        t.due("share(1, 1, 0)", x.share(1, 1, 0), 12);
        t.due("share(1, 1, 1)", x.share(1, 1, 1), 19);
        t.due("share(1, 1, 2)", x.share(1, 1, 2), -2);
        t.due("share(1, 1, -1)", x.share(1, 1, -1), -2);
    }

    private static void noneOfZeroIsBest(Sentences t) {
        HiddenRows x = Examples.twoStates();
        t.due("best(2)", x.best(2), 1);
        t.due("best(3)", x.best(3), -3);
        x.weight(1, 0, 0);
        t.due("best(1)", x.best(1), 6);
        t.due("best(2), which weighs 0 now", x.best(2), -3);
    }

    private static void greatestFirst(Sentences t) {
        HiddenRows x = Examples.twoStates();
        int[] told = {2, 1, 20};
        int[] weights = {12, 6, 1};
        for (int k = 0; k < 3; k++) {
            t.due("best(" + k + ")", x.best(k), weights[k]);
            t.due("way " + k + " tells", 10 * x.bestAt(k, 0) + x.bestAt(k, 1), told[k]);
        }
    }

    private static void sameWeightInOrder(Sentences t) {
        HiddenRows x = Examples.twoStatesTied();
        int[] told = {1, 2, 20};
        int[] weights = {12, 12, 2};
        for (int k = 0; k < 3; k++) {
            t.due("best(" + k + ")", x.best(k), weights[k]);
            t.due("way " + k + " tells", 10 * x.bestAt(k, 0) + x.bestAt(k, 1), told[k]);
        }
        HiddenRows many = Examples.oneStateOfAllStays(6);
        int[] tenOf24 = {0, 1, 10, 11, 100, 101, 110, 1000, 1001, 1010};
        for (int k = 0; k < 10; k++) {
            int number = 0;
            for (int place = 0; place < 6; place++) {
                number = 10 * number + many.bestAt(k, place);
            }
            t.due("way " + k + " of 24 alike tells", number, tenOf24[k]);
        }
    }

    /** For seed 0 z becomes 1013904223, then 1196435762; for -1 1012239698, then 806866057; for 1 1586005467 in the end. */
    private static void seedsThatWrap(Sentences t) {
        HiddenRows x = Examples.twoStates();
        t.due("u is 15, drawn(0)", x.drawn(0), 12);
        t.due("u is 12, drawn(-1)", x.drawn(-1), 12);
        t.due("u is 1, drawn(1)", x.drawn(1), 6);
        t.due("u is 2, drawn(LOW)", x.drawn(LOW), 6);
        t.due("u is 18, drawn(HIGH)", x.drawn(HIGH), 1);
    }

    /** For seed 7 z is 3923423697 in the end, for HIGH 3159723346 and 2954349705: the top bit is set. */
    private static void zerosComeIn(Sentences t) {
        HiddenRows x = Examples.twoStates();
        t.due("u is 6, drawn(7)", x.drawn(7), 12);
        t.due("u is 18, drawn(HIGH)", x.drawn(HIGH), 1);
        HiddenRows many = Examples.greatest();
        many.drawn(HIGH);
        int[] told = {4, 4, 6, 6, 0, 0};
        for (int place = 0; place < 6; place++) {
            t.due("drawnAt(" + place + ")", many.drawnAt(place), told[place]);
        }
    }

    private static void moduloTheLeastAndGreatestTotal(Sentences t) {
        HiddenRows one = Examples.oneState(1);
        for (int seed : new int[] {0, 1, -1, LOW, HIGH}) {
            t.due("TOTAL is 1, drawn(" + seed + ")", one.drawn(seed), 1);
            t.due("what is drawn", one.drawnAt(0), 0);
        }
        HiddenRows many = Examples.greatest();
        many.drawn(LOW);
        int[] told = {4, 4, 6, 6, 0, 4};
        for (int place = 0; place < 6; place++) {
            t.due("TOTAL is above all u, drawnAt(" + place + ")", many.drawnAt(place), told[place]);
        }
    }

    private static void justAboveU(Sentences t) {
        HiddenRows x = Examples.twoStates();
        t.due("u is 0: 0 is not above it, 6 is", x.drawn(-157), 6);
        t.due("u is 5", x.drawn(-176), 6);
        t.due("u is 6: 6 is not above it", x.drawn(-186), 12);
        t.due("u is 17", x.drawn(-188), 12);
        t.due("u is 18: the last way", x.drawn(-198), 1);
    }

    /** STAY 1, 2, 3 are 1, 2, 3, so TOTAL is 100; the seeds, worked out apart, reach each of the 24 ways in its turn. */
    private static void eachWayOfAllStaysIsDrawn(Sentences t) {
        HiddenRows x = Examples.oneState(6);
        x.weight(0, 3, 2);
        x.weight(0, 4, 3);
        int[] seeds = {7, 16, 45, 18, 0, 49, 2, 51, 4, 6, 37, 19, 21, 50, 23, 25, 9, 29, 11, 15, 17, 8, 1, 5};
        String[] told = {"000000", "000001", "000010", "000011", "000100", "000101", "000110", "001000", "001001", "001010",
            "001011", "001100", "001101", "010000", "010001", "010010", "010011", "010100", "010101", "010110", "011000",
            "011001", "011010", "011011"};
        int[] weights = {1, 2, 2, 3, 2, 4, 3, 2, 4, 4, 6, 3, 6, 2, 4, 4, 6, 4, 8, 6, 3, 6, 6, 9};
        for (int i = 0; i < 24; i++) {
            t.due("drawn(" + seeds[i] + ")", x.drawn(seeds[i]), weights[i]);
            for (int place = 0; place < 6; place++) {
                t.due("way " + i + ", drawnAt(" + place + ")", x.drawnAt(place), told[i].charAt(place) - '0');
            }
        }
    }

    private static void fourKindsAtMost(Sentences t) {
        HiddenRows x = new HiddenRows();
        for (int k = 0; k < 4; k++) {
            t.due("kind()", x.kind(), k);
        }
        t.due("a fifth kind()", x.kind(), -4);
        t.due("leaf(3, 0, 0)", x.leaf(3, 0, 0), 0);
        t.due("leaf(4, 0, 0)", x.leaf(4, 0, 0), -1);
    }

    private static void rulesAndLeavesOfTheSame(Sentences t) {
        HiddenRows x = Examples.full();
        for (int k = 0; k < 4; k++) {
            t.due("rule of the same kinds", x.rule(k, k, k, k + 1), 0);
            t.due("leaf of the same number", x.leaf(k, k, 4 - k), 0);
        }
        for (int k = 0; k < 4; k++) {
            t.due("rule of the same kinds, again", x.rule(k, k, k, 0), k + 1);
            t.due("leaf of the same number, again", x.leaf(k, k, 0), 4 - k);
        }
        t.due("a kind of itself alone", Examples.oneKind(6).trees(0), 42);
    }

    private static void rulesAndLeavesAtFirst(Sentences t) {
        HiddenRows x = Examples.full();
        for (int i = 0; i < 64; i++) {
            t.due("rule " + i, x.rule(i / 16, i / 4 % 4, i % 4, 1), 0);
        }
        for (int i = 0; i < 16; i++) {
            t.due("leaf " + i, x.leaf(i / 4, i % 4, 1), 0);
        }
    }

    private static void noRuleOverOnePlace(Sentences t) {
        HiddenRows x = Examples.oneKind(1);
        x.rule(0, 0, 0, 4);
        t.due("one leaf", x.trees(0), 1);
        t.due("one tree", x.treeCount(0), 1);
        t.due("it tells", x.treeAt(0, 0), 0);
        x.leaf(0, 0, 0);
        t.due("no leaf", x.trees(0), 0);
    }

    private static void noLeafOverMore(Sentences t) {
        HiddenRows x = Examples.oneKind(2);
        x.leaf(0, 0, 3);
        t.due("two leaves and a rule", x.trees(0), 9);
        x.rule(0, 0, 0, 0);
        t.due("no rule", x.trees(0), 0);
        HiddenRows y = new HiddenRows();
        for (int k = 0; k < 3; k++) {
            y.kind();
        }
        y.rule(0, 1, 2, 2);
        y.leaf(1, 0, 3);
        y.leaf(2, 1, 4);
        y.sign(0);
        y.sign(1);
        t.due("the second kind before m, the third from m on", y.trees(0), 24);
        t.due("another kind", y.trees(1), 0);
        y.clear();
        y.sign(1);
        y.sign(0);
        t.due("the other way round", y.trees(0), 0);
    }

    private static void treeWeighs(Sentences t) {
        HiddenRows x = Examples.oneKind(6);
        x.rule(0, 0, 0, 4);
        x.leaf(0, 0, 4);
        t.due("5 rules and 6 leaves of 4", x.treeBest(0), 1L << 22);
        t.due("42 of them", x.trees(0), 42L << 22);
        x.leaf(0, 0, 0);
        t.due("a leaf of 0", x.trees(0), 0);
    }

    private static void missingLeaves(Sentences t) {
        HiddenRows x = new HiddenRows();
        x.kind();
        x.sign(-1);
        t.due("all leaves 0", x.trees(0), 0);
        x.leaf(0, 3, 3);
        t.due("the last leaf alone", x.trees(0), 3);
        for (int s = 0; s < 4; s++) {
            x.leaf(0, s, 4);
        }
        t.due("all leaves 4", x.trees(0), 16);
        t.due("it is one tree", x.treeCount(0), 1);
        t.due("of that weight", x.treeBest(0), 16);
    }

    private static void treeTells(Sentences t) {
        HiddenRows x = Examples.full();
        x.rule(3, 2, 3, 1);
        x.leaf(2, 0, 1);
        x.leaf(3, 0, 1);
        int[] bentRight = {123, 0, 223, 0, 323, 0, 423, 0, 523, 0, 0};
        for (int i = 0; i < bentRight.length; i++) {
            t.due("bent to the right, number " + i, x.treeAt(3, i), bentRight[i]);
        }
        HiddenRows y = Examples.full();
        y.rule(3, 3, 3, 1);
        y.leaf(3, 0, 1);
        y.clear();
        y.sign(0);
        y.sign(0);
        t.due("the greatest kinds", y.treeAt(3, 0), 133);
    }

    private static void treeBefore(Sentences t) {
        HiddenRows x = Examples.oneKind(4);
        int[] first = {100, 0, 200, 0, 300, 0, 0};
        for (int i = 0; i < first.length; i++) {
            t.due("the first of five, number " + i, x.treeAt(0, i), first[i]);
        }
    }

    private static HiddenRows rich() {
        HiddenRows x = Examples.twoStates();
        Examples.addTwoKinds(x);
        x.hold(0, 0);
        x.drawn(0);
        return x;
    }

    private static void changesNothing(Sentences t, String call, int answer, Supplier<HiddenRows> maker,
            ToLongFunction<HiddenRows> refused) {
        HiddenRows untouched = maker.get();
        HiddenRows touched = maker.get();
        t.due(call, refused.applyAsLong(touched), answer);
        t.same("after " + call, Portrait.of(touched), Portrait.of(untouched));
    }

    private static void refusal(Sentences t, String call, int answer, ToLongFunction<HiddenRows> refused) {
        changesNothing(t, call, answer, BoundariesOfTermsTest::rich, refused);
    }

    private static void refusalsChangeNothing(Sentences t) {
        refusal(t, "weight(2, 0, 4)", -1, x -> x.weight(2, 0, 4));
        refusal(t, "weight(0, 9, 4)", -1, x -> x.weight(0, 9, 4));
        refusal(t, "weight(0, 5, 5)", -2, x -> x.weight(0, 5, 5));
        refusal(t, "move(2, 0, 4)", -1, x -> x.move(2, 0, 4));
        refusal(t, "move(0, 2, 4)", -1, x -> x.move(0, 2, 4));
        refusal(t, "move(0, 1, -1)", -2, x -> x.move(0, 1, -1));
        refusal(t, "rule(2, 0, 0, 4)", -1, x -> x.rule(2, 0, 0, 4));
        refusal(t, "rule(0, 2, 0, 4)", -1, x -> x.rule(0, 2, 0, 4));
        refusal(t, "rule(0, 0, 2, 4)", -1, x -> x.rule(0, 0, 2, 4));
        refusal(t, "rule(0, 0, 1, 5)", -2, x -> x.rule(0, 0, 1, 5));
        refusal(t, "leaf(2, 0, 4)", -1, x -> x.leaf(2, 0, 4));
        refusal(t, "leaf(0, 4, 4)", -1, x -> x.leaf(0, 4, 4));
        refusal(t, "leaf(0, 0, -1)", -2, x -> x.leaf(0, 0, -1));
        refusal(t, "sign(4)", -2, x -> x.sign(4));
        refusal(t, "sign(-2)", -2, x -> x.sign(-2));
        refusal(t, "hold(2, 1)", -1, x -> x.hold(2, 1));
        refusal(t, "hold(0, 2)", -1, x -> x.hold(0, 2));
        refusal(t, "hold(0, -2)", -1, x -> x.hold(0, -2));
        refusal(t, "share(2, 0, 0)", -1, x -> x.share(2, 0, 0));
        refusal(t, "share(0, 0, 2)", -2, x -> x.share(0, 0, 2));
        refusal(t, "begin(0, 2, 0)", -1, x -> x.begin(0, 2, 0));
        refusal(t, "pair(1, 0, 0, 0)", -1, x -> x.pair(1, 0, 0, 0));
        refusal(t, "top(2)", -1, x -> x.top(2));
        refusal(t, "best(10)", -2, x -> x.best(10));
        refusal(t, "best(9)", -3, x -> x.best(9));
        refusal(t, "bestAt(0, 2)", -1, x -> x.bestAt(0, 2));
        refusal(t, "drawnAt(2)", -1, x -> x.drawnAt(2));
        refusal(t, "trees(2)", -1, x -> x.trees(2));
        refusal(t, "treeCount(2)", -1, x -> x.treeCount(2));
        refusal(t, "treeBest(2)", -1, x -> x.treeBest(2));
        refusal(t, "treeAt(0, 3)", -1, x -> x.treeAt(0, 3));
        refusal(t, "span(0, 0, 1, 0, 0)", -1, x -> x.span(0, 0, 1, 0, 0));
        refusal(t, "span(0, 0, 0, 0, 2)", -2, x -> x.span(0, 0, 0, 0, 2));
    }

    /** As the rich one, with a sign behind that nothing shows and no leaf stands for: no way and no tree is left. */
    private static HiddenRows richInVain() {
        HiddenRows x = rich();
        x.sign(3);
        return x;
    }

    private static void vainAsking(Sentences t, String call, ToLongFunction<HiddenRows> refused) {
        changesNothing(t, call, -3, BoundariesOfTermsTest::richInVain, refused);
    }

    private static void refusalsOfNoneChangeNothing(Sentences t) {
        vainAsking(t, "share(0, 0, 0)", x -> x.share(0, 0, 0));
        vainAsking(t, "begin(0, 0, 0)", x -> x.begin(0, 0, 0));
        vainAsking(t, "pair(0, 0, 1, 0)", x -> x.pair(0, 0, 1, 0));
        vainAsking(t, "top(0)", x -> x.top(0));
        vainAsking(t, "best(0)", x -> x.best(0));
        vainAsking(t, "bestAt(0, 0)", x -> x.bestAt(0, 0));
        vainAsking(t, "drawn(0)", x -> x.drawn(0));
        vainAsking(t, "drawnAt(0)", x -> x.drawnAt(0));
        vainAsking(t, "treeBest(0)", x -> x.treeBest(0));
        vainAsking(t, "treeAt(0, 0)", x -> x.treeAt(0, 0));
        vainAsking(t, "span(0, 0, 0, 0, 0)", x -> x.span(0, 0, 0, 0, 0));
    }

    /** All of it, with a few weights, so that the portrait and what goes before it stay within 512 calls. */
    private static HiddenRows richAndFull() {
        HiddenRows x = Examples.full();
        x.weight(3, 5, 2);
        x.move(3, 3, 2);
        x.weight(3, 3, 1);
        x.rule(3, 3, 3, 2);
        x.leaf(3, 0, 3);
        x.hold(5, 3);
        x.drawn(1);
        return x;
    }

    private static void refusalsForWantOfRoomChangeNothing(Sentences t) {
        changesNothing(t, "state()", -4, BoundariesOfTermsTest::richAndFull, x -> x.state());
        changesNothing(t, "kind()", -4, BoundariesOfTermsTest::richAndFull, x -> x.kind());
        changesNothing(t, "sign(0)", -4, BoundariesOfTermsTest::richAndFull, x -> x.sign(0));
        changesNothing(t, "sign(-1)", -4, BoundariesOfTermsTest::richAndFull, x -> x.sign(-1));
    }

    private static void theOneNamedFirst(Sentences t) {
        HiddenRows x = Examples.full();
        t.due("weight, -1 and -2", x.weight(4, 9, 5), -1);
        t.due("move, -1 and -2", x.move(4, 0, 5), -1);
        t.due("rule, -1 and -2", x.rule(0, 0, 4, 5), -1);
        t.due("leaf, -1 and -2", x.leaf(0, 4, 5), -1);
        t.due("sign, -2 and -4", x.sign(4), -2);
        t.due("share, -1, -2 and -3", x.share(6, 4, 2), -1);
        t.due("share, -2 and -3", x.share(0, 0, 2), -2);
        t.due("begin, -1, -2 and -3", x.begin(6, 4, 2), -1);
        t.due("begin, -2 and -3", x.begin(0, 0, 2), -2);
        t.due("pair, -1, -2 and -3", x.pair(5, 0, 0, 2), -1);
        t.due("pair, -2 and -3", x.pair(4, 0, 0, 2), -2);
        t.due("top, -1 and -3", x.top(6), -1);
        t.due("best, -2 and -3", x.best(10), -2);
        t.due("bestAt, -2, -3 and -1", x.bestAt(10, 6), -2);
        t.due("bestAt, -3 and -1", x.bestAt(0, 6), -3);
        t.due("drawnAt, -3 and -1", x.drawnAt(6), -3);
        t.due("treeBest, -1 and -3", x.treeBest(4), -1);
        t.due("treeAt, -1 (KIND) and -3", x.treeAt(4, 0), -1);
        t.due("treeAt, -3 and -1 (number)", x.treeAt(0, 11), -3);
        t.due("span, -1, -2 and -3", x.span(0, 0, 1, 0, 2), -1);
        t.due("span, -2 and -3", x.span(0, 0, 0, 0, 2), -2);
    }

    private static void noSuch(Sentences t) {
        HiddenRows x = rich();
        for (int none : new int[] {-1, 4, 6, LOW, HIGH}) {
            t.due("no STATE " + none, x.weight(none, 0, 0), -1);
            t.due("no KIND " + none, x.trees(none), -1);
            t.due("no SIGN " + none, x.leaf(0, none, 0), -1);
            t.due("no place " + none, x.top(none), -1);
            t.due("no number " + none, x.treeAt(0, none), -1);
        }
    }

    private static void outsideItsBounds(Sentences t) {
        HiddenRows x = rich();
        for (int out : new int[] {-2, 10, LOW, HIGH}) {
            t.due("weight " + out, x.weight(0, 0, out), -2);
            t.due("sign " + out, x.sign(out), -2);
            t.due("part " + out, x.share(0, 0, out), -2);
            t.due("k " + out, x.best(out), -2);
        }
    }

    private static void thereIsNone(Sentences t) {
        HiddenRows x = Examples.full();
        t.due("TOTAL is 0", x.total(), 0);
        t.due("share", x.share(5, 3, 0), -3);
        t.due("begin", x.begin(5, 3, 1), -3);
        t.due("pair", x.pair(4, 3, 3, 0), -3);
        t.due("top", x.top(5), -3);
        t.due("best", x.best(0), -3);
        t.due("bestAt", x.bestAt(0, 0), -3);
        t.due("drawn", x.drawn(0), -3);
        t.due("drawnAt", x.drawnAt(0), -3);
        t.due("treeBest", x.treeBest(0), -3);
        t.due("treeAt", x.treeAt(0, 0), -3);
        t.due("span", x.span(0, 0, 0, 0, 0), -3);
    }

    private static void noRoom(Sentences t) {
        HiddenRows x = Examples.full();
        t.due("state()", x.state(), -4);
        t.due("kind()", x.kind(), -4);
        t.due("sign(0)", x.sign(0), -4);
        x.clear();
        t.due("sign(0) with room", x.sign(0), 1);
        t.due("state() without", x.state(), -4);
    }
}
