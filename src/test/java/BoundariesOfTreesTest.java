import java.io.IOException;

/** Promises 21 to 25, sentence by sentence: too small, too large, empty, full, refused. */
public final class BoundariesOfTreesTest {
    private static final int LOW = Integer.MIN_VALUE;
    private static final int HIGH = Integer.MAX_VALUE;
    /** How many ways there are to split 0 .. 6 places again and again, down to single ones. */
    private static final int[] SHAPES = {0, 1, 1, 2, 5, 14, 42};

    public static void main(String[] args) throws IOException {
        Sentences sentences = new Sentences();
        sumsAndCounts(sentences);
        bests(sentences);
        spans(sentences);
        sentences.end("Promise 21", "Promise 22", "Promise 23", "Promise 24", "Promise 25");
    }

    private static void sumsAndCounts(Sentences on) {
        on.promise(21, "The sum of the WEIGHTS of all TREES of a KIND over the whole ROW",
            BoundariesOfTreesTest::sumOverOneToSixPlaces);
        on.promise(21, "The sum of the WEIGHTS of all TREES", BoundariesOfTreesTest::greatestSum);
        on.promise(21, "(0 without places).", BoundariesOfTreesTest::noSumWithoutPlaces);
        on.promise(21, "-1.", BoundariesOfTreesTest::noSuchKindToSum);
        on.promise(22, "How many of them have a WEIGHT above 0.", BoundariesOfTreesTest::countOverOneToSixPlaces);
        on.promise(22, "How many of them have a WEIGHT above 0.", BoundariesOfTreesTest::countOfNone);
        on.promise(22, "How many of them have a WEIGHT above 0.", BoundariesOfTreesTest::greatestCount);
        on.promise(22, "-1.", BoundariesOfTreesTest::noSuchKindToCount);
    }

    private static void bests(Sentences on) {
        on.promise(23, "The greatest WEIGHT of one.", BoundariesOfTreesTest::bestOfEachKind);
        on.promise(23, "The greatest WEIGHT of one.", BoundariesOfTreesTest::greatestBest);
        on.promise(23, "-1,", BoundariesOfTreesTest::noSuchKindOfABest);
        on.promise(23, "-3 that sum is 0.", BoundariesOfTreesTest::noBestOfNone);
        on.promise(23, "-1, -3 that sum is 0.", BoundariesOfTreesTest::orderOfRefusalsOfABest);
        on.promise(24, "Number i, from 0, of what the one with it", BoundariesOfTreesTest::numbersOfTheBest);
        on.promise(24, "that is BEFORE all others with it tells.", BoundariesOfTreesTest::beforeAllOthers);
        on.promise(24, "-1 (KIND),", BoundariesOfTreesTest::noSuchKindToTell);
        on.promise(24, "-3,", BoundariesOfTreesTest::nothingToTellOfNone);
        on.promise(24, "-1 there is none such.", BoundariesOfTreesTest::noSuchNumber);
        on.promise(24, "-1 (KIND), -3, -1 there is none such.", BoundariesOfTreesTest::orderOfRefusalsOfTreeAt);
    }

    private static void spans(Sentences on) {
        on.promise(25, "Of the TREES of a KIND over the whole ROW the sum of the WEIGHTS of those that have a TREE of"
            + " another KIND", BoundariesOfTreesTest::spanOfAnotherKind);
        on.promise(25, "(or the same) over just the places i .. j, by that of all,",
            BoundariesOfTreesTest::spansOfTheSameKind);
        on.promise(25, "in lowest terms.", BoundariesOfTreesTest::spanInLowestTerms);
        on.promise(25, "-1 (KINDS,", BoundariesOfTreesTest::noSuchKindsOfASpan);
        on.promise(25, "places,", BoundariesOfTreesTest::noSuchPlacesOfASpan);
        on.promise(25, "i above j),", BoundariesOfTreesTest::firstPlaceAboveLast);
        on.promise(25, "-2 another part,", BoundariesOfTreesTest::anotherPartOfASpan);
        on.promise(25, "-3 the sum of all is 0.", BoundariesOfTreesTest::noSpanOfNone);
        on.promise(25, "-1 (KINDS, places, i above j), -2 another part, -3 the sum of all is 0.",
            BoundariesOfTreesTest::orderOfRefusalsOfASpan);
    }

    /** Two kinds with leaves but without rules over two places: no tree weighs anything. */
    private static HiddenRows noTree() {
        HiddenRows x = new HiddenRows();
        x.kind();
        x.kind();
        x.leaf(0, 0, 1);
        x.leaf(1, 0, 1);
        x.sign(0);
        x.sign(0);
        return x;
    }

    /** Kinds 2 and 3 with the rule 3 -> 3 2 alone and the leaves of sign 0: one tree, bent to the left. */
    private static HiddenRows bentLeft(int n) {
        HiddenRows x = new HiddenRows();
        for (int k = 0; k < 4; k++) {
            x.kind();
        }
        x.leaf(2, 0, 2);
        x.leaf(3, 0, 1);
        x.rule(3, 3, 2, 3);
        for (int i = 0; i < n; i++) {
            x.sign(0);
        }
        return x;
    }

    private static void sumOverOneToSixPlaces(Sentences t) {
        HiddenRows x = Examples.oneKind(0);
        x.leaf(0, 0, 2);
        for (int n = 1; n <= 6; n++) {
            x.sign(0);
            t.due("trees(0) over " + n, x.trees(0), (long) SHAPES[n] << n);
        }
        HiddenRows y = Examples.twoKinds();
        t.due("trees(0)", y.trees(0), 52);
        t.due("trees(1)", y.trees(1), 96);
        t.due("none of them", noTree().trees(1), 0);
    }

    private static void greatestSum(Sentences t) {
        HiddenRows x = Examples.greatest();
        for (int kind = 0; kind < 4; kind++) {
            t.due("trees(" + kind + ")", x.trees(kind), 42L << 54);
        }
    }

    private static void noSumWithoutPlaces(Sentences t) {
        t.due("trees(0) of an empty row", Examples.oneKind(0).trees(0), 0);
        HiddenRows x = Examples.oneKind(6);
        t.due("trees(0) of six", x.trees(0), 42);
        x.clear();
        t.due("trees(0) of a cleared row", x.trees(0), 0);
        x.sign(0);
        t.due("trees(0) of one", x.trees(0), 1);
    }

    private static void noSuchKindToSum(Sentences t) {
        HiddenRows x = Examples.twoKinds();
        for (int kind : new int[] {-1, 2, 3, 4, LOW, HIGH}) {
            t.due("trees(" + kind + ")", x.trees(kind), -1);
        }
        t.due("trees(4) of all kinds", Examples.greatest().trees(4), -1);
        t.due("trees(0) of a new object", new HiddenRows().trees(0), -1);
    }

    private static void countOverOneToSixPlaces(Sentences t) {
        HiddenRows x = Examples.oneKind(0);
        x.leaf(0, 0, 4);
        for (int n = 1; n <= 6; n++) {
            x.sign(0);
            t.due("treeCount(0) over " + n, x.treeCount(0), SHAPES[n]);
        }
        x.clear();
        x.leaf(0, 3, 2);
        x.sign(-1);
        t.due("a missing sign is one leaf", x.treeCount(0), 1);
    }

    private static void countOfNone(Sentences t) {
        t.due("without rules", noTree().treeCount(0), 0);
        t.due("an empty row", Examples.oneKind(0).treeCount(0), 0);
        HiddenRows x = Examples.twoKinds();
        t.due("three above 0", x.treeCount(0), 3);
        x.leaf(1, 0, 0);
        t.due("two less", x.treeCount(0), 2);
        x.leaf(0, 0, 0);
        t.due("no leaf", x.treeCount(0), 0);
    }

    private static void greatestCount(Sentences t) {
        t.due("treeCount(3)", Examples.greatest().treeCount(3), 42L << 20);
    }

    private static void noSuchKindToCount(Sentences t) {
        HiddenRows x = Examples.twoKinds();
        for (int kind : new int[] {-1, 2, 3, 4, LOW, HIGH}) {
            t.due("treeCount(" + kind + ")", x.treeCount(kind), -1);
        }
        t.due("treeCount(4) of all kinds", Examples.greatest().treeCount(4), -1);
    }

    private static void bestOfEachKind(Sentences t) {
        HiddenRows x = Examples.twoKinds();
        t.due("treeBest(0)", x.treeBest(0), 24);
        t.due("treeBest(1)", x.treeBest(1), 48);
        for (int n = 1; n <= 6; n++) {
            t.due("one tree alone over " + n, bentLeft(n).treeBest(3), Math.round(Math.pow(6, n - 1)));
        }
    }

    private static void greatestBest(Sentences t) {
        t.due("5 rules of 4, 6 missing leaves", Examples.greatest().treeBest(0), 1L << 34);
    }

    private static void noSuchKindOfABest(Sentences t) {
        HiddenRows x = Examples.twoKinds();
        for (int kind : new int[] {-1, 2, 3, 4, LOW, HIGH}) {
            t.due("treeBest(" + kind + ")", x.treeBest(kind), -1);
        }
    }

    private static void noBestOfNone(Sentences t) {
        t.due("without rules", noTree().treeBest(0), -3);
        t.due("an empty row", Examples.oneKind(0).treeBest(0), -3);
        HiddenRows x = bentLeft(2);
        t.due("the kind without rules", x.treeBest(2), -3);
        t.due("the other", x.treeBest(3), 6);
    }

    private static void orderOfRefusalsOfABest(Sentences t) {
        t.due("treeBest(2) without rules", noTree().treeBest(2), -1);
        t.due("treeBest(-1) without rules", noTree().treeBest(-1), -1);
        t.due("treeBest(0) of a new object", new HiddenRows().treeBest(0), -1);
    }

    private static void tells(Sentences t, HiddenRows x, int kind, int... numbers) {
        for (int i = 0; i < numbers.length; i++) {
            t.due("treeAt(" + kind + ", " + i + ") of " + numbers.length, x.treeAt(kind, i), numbers[i]);
        }
        t.due("treeAt(" + kind + ", " + numbers.length + ")", x.treeAt(kind, numbers.length), -1);
    }

    private static void numbersOfTheBest(Sentences t) {
        tells(t, Examples.oneKind(1), 0, 0);
        tells(t, Examples.oneKind(2), 0, 100, 0, 0);
        tells(t, bentLeft(1), 3, 0);
        tells(t, bentLeft(2), 3, 132, 0, 0);
        tells(t, bentLeft(6), 3, 532, 432, 332, 232, 132, 0, 0, 0, 0, 0, 0);
        tells(t, Examples.twoKinds(), 0, 101, 0, 200, 0, 0);
        tells(t, Examples.twoKinds(), 1, 200, 101, 0, 0, 0);
    }

    private static void beforeAllOthers(Sentences t) {
        tells(t, Examples.oneKind(6), 0, 100, 0, 200, 0, 300, 0, 400, 0, 500, 0, 0);
        HiddenRows x = noTree();
        x.rule(0, 1, 1, 1);
        tells(t, x, 0, 111, 0, 0);
        x.rule(0, 1, 0, 1);
        tells(t, x, 0, 110, 0, 0);
        x.rule(0, 0, 1, 1);
        tells(t, x, 0, 101, 0, 0);
        x.rule(0, 0, 0, 1);
        tells(t, x, 0, 100, 0, 0);
        HiddenRows place = noTree();
        place.sign(0);
        place.rule(0, 1, 1, 1);
        place.rule(1, 0, 0, 1);
        place.rule(0, 0, 0, 0);
        tells(t, place, 0, 111, 0, 200, 0, 0);
        place.rule(1, 0, 0, 4);
        place.rule(0, 0, 1, 2);
        tells(t, place, 0, 101, 0, 200, 0, 0);
        place.rule(0, 0, 1, 1);
        tells(t, place, 0, 101, 0, 200, 0, 0);
    }

    private static void noSuchKindToTell(Sentences t) {
        HiddenRows x = Examples.twoKinds();
        for (int kind : new int[] {-1, 2, 3, 4, LOW, HIGH}) {
            t.due("treeAt(" + kind + ", 0)", x.treeAt(kind, 0), -1);
        }
    }

    private static void nothingToTellOfNone(Sentences t) {
        t.due("without rules", noTree().treeAt(0, 0), -3);
        t.due("an empty row", Examples.oneKind(0).treeAt(0, 0), -3);
        t.due("the kind without rules", bentLeft(2).treeAt(2, 0), -3);
    }

    private static void noSuchNumber(Sentences t) {
        for (int n = 1; n <= 6; n++) {
            HiddenRows x = Examples.oneKind(n);
            t.due("the last number over " + n, x.treeAt(0, 2 * n - 2), 0);
            for (int i : new int[] {-1, 2 * n - 1, 2 * n, LOW, HIGH}) {
                t.due("treeAt(0, " + i + ") over " + n, x.treeAt(0, i), -1);
            }
        }
    }

    private static void orderOfRefusalsOfTreeAt(Sentences t) {
        HiddenRows x = noTree();
        t.due("kind, none and number", x.treeAt(2, 9), -1);
        t.due("kind and none", x.treeAt(-1, 0), -1);
        t.due("none and number", x.treeAt(0, 3), -3);
        t.due("none and number, below", x.treeAt(0, -1), -3);
        t.due("an empty row", Examples.oneKind(0).treeAt(0, -1), -3);
    }

    private static void spanOfAnotherKind(Sentences t) {
        HiddenRows x = Examples.twoKinds();
        t.dueRatio("1 over 0", x.span(0, 1, 0, 0, 0), x.span(0, 1, 0, 0, 1), 4, 13);
        t.dueRatio("1 over 1 .. 2", x.span(0, 1, 1, 2, 0), x.span(0, 1, 1, 2, 1), 6, 13);
        t.dueRatio("1 over 0 .. 1", x.span(0, 1, 0, 1, 0), x.span(0, 1, 0, 1, 1), 3, 13);
        t.dueRatio("1 over the whole", x.span(0, 1, 0, 2, 0), x.span(0, 1, 0, 2, 1), 0, 1);
        t.dueRatio("0 over the whole of 1", x.span(1, 0, 0, 2, 0), x.span(1, 0, 0, 2, 1), 0, 1);
        HiddenRows bent = bentLeft(6);
        t.dueRatio("3 over 0 .. 4", bent.span(3, 3, 0, 4, 0), bent.span(3, 3, 0, 4, 1), 1, 1);
        t.dueRatio("2 over 5", bent.span(3, 2, 5, 5, 0), bent.span(3, 2, 5, 5, 1), 1, 1);
        t.dueRatio("2 over 0", bent.span(3, 2, 0, 0, 0), bent.span(3, 2, 0, 0, 1), 0, 1);
        t.dueRatio("3 over 1 .. 5", bent.span(3, 3, 1, 5, 0), bent.span(3, 3, 1, 5, 1), 0, 1);
    }

    private static void spansOfTheSameKind(Sentences t) {
        HiddenRows x = Examples.oneKind(6);
        int[] above = {1, 1, 5, 5, 1, 1};
        int[] below = {1, 3, 21, 21, 3, 1};
        for (int i = 0; i < 6; i++) {
            for (int j = i; j < 6; j++) {
                t.dueRatio("span(0, 0, " + i + ", " + j + ")", x.span(0, 0, i, j, 0), x.span(0, 0, i, j, 1),
                    above[j - i], below[j - i]);
            }
        }
    }

    private static void spanInLowestTerms(Sentences t) {
        HiddenRows place = bentLeft(1);
        t.dueRatio("one place", place.span(3, 3, 0, 0, 0), place.span(3, 3, 0, 0, 1), 1, 1);
        t.dueRatio("one place, another kind", place.span(3, 2, 0, 0, 0), place.span(3, 2, 0, 0, 1), 0, 1);
        HiddenRows x = Examples.greatest();
        t.dueRatio("all", x.span(3, 3, 0, 5, 0), x.span(3, 3, 0, 5, 1), 1, 1);
        t.dueRatio("none", x.span(3, 2, 0, 5, 0), x.span(3, 2, 0, 5, 1), 0, 1);
        t.dueRatio("a quarter", x.span(3, 2, 5, 5, 0), x.span(3, 2, 5, 5, 1), 1, 4);
        t.dueRatio("a quarter of 5 / 21", x.span(3, 2, 1, 3, 0), x.span(3, 2, 1, 3, 1), 5, 84);
    }

    private static void noSuchKindsOfASpan(Sentences t) {
        HiddenRows x = Examples.twoKinds();
        for (int kind : new int[] {-1, 2, 3, 4, LOW, HIGH}) {
            t.due("span(" + kind + ", 0, 0, 0, 0)", x.span(kind, 0, 0, 0, 0), -1);
            t.due("span(0, " + kind + ", 0, 0, 0)", x.span(0, kind, 0, 0, 0), -1);
        }
    }

    private static void noSuchPlacesOfASpan(Sentences t) {
        HiddenRows x = Examples.twoKinds();
        for (int place : new int[] {-1, 3, 4, 5, 6, LOW, HIGH}) {
            t.due("span(0, 0, " + place + ", 2, 0)", x.span(0, 0, place, 2, 0), -1);
            t.due("span(0, 0, 0, " + place + ", 0)", x.span(0, 0, 0, place, 0), -1);
            t.due("span(0, 0, " + place + ", " + place + ", 0)", x.span(0, 0, place, place, 0), -1);
        }
        t.due("span(0, 0, 5, 6, 0) of a full row", Examples.greatest().span(0, 0, 5, 6, 0), -1);
        x.clear();
        t.due("span(0, 0, 0, 0, 0) of an empty row", x.span(0, 0, 0, 0, 0), -1);
    }

    private static void firstPlaceAboveLast(Sentences t) {
        HiddenRows x = Examples.twoKinds();
        t.due("span(0, 0, 1, 0, 0)", x.span(0, 0, 1, 0, 0), -1);
        t.due("span(0, 0, 2, 1, 1)", x.span(0, 0, 2, 1, 1), -1);
        t.due("span(0, 0, 2, 0, 0)", x.span(0, 0, 2, 0, 0), -1);
        t.due("span(0, 0, 2, 2, 0), the same", x.span(0, 0, 2, 2, 0), 1);
    }

    private static void anotherPartOfASpan(Sentences t) {
        HiddenRows x = Examples.twoKinds();
        for (int part : new int[] {-1, 2, 3, LOW, HIGH}) {
            t.due("span(0, 0, 0, 2, " + part + ")", x.span(0, 0, 0, 2, part), -2);
        }
    }

    private static void noSpanOfNone(Sentences t) {
        HiddenRows x = noTree();
        t.due("span(0, 0, 0, 0, 0)", x.span(0, 0, 0, 0, 0), -3);
        t.due("span(0, 1, 0, 1, 1)", x.span(0, 1, 0, 1, 1), -3);
        t.due("of a kind without rules", bentLeft(2).span(2, 3, 0, 1, 0), -3);
    }

    private static void orderOfRefusalsOfASpan(Sentences t) {
        HiddenRows x = noTree();
        t.due("kind, part and none", x.span(2, 0, 0, 0, 2), -1);
        t.due("within, part and none", x.span(0, 2, 0, 0, 2), -1);
        t.due("i, part and none", x.span(0, 0, -1, 0, 2), -1);
        t.due("j, part and none", x.span(0, 0, 0, 2, 2), -1);
        t.due("i above j, part and none", x.span(0, 0, 1, 0, 2), -1);
        t.due("i above j and none", x.span(0, 0, 1, 0, 0), -1);
        t.due("part and none", x.span(0, 0, 0, 0, 2), -2);
        t.due("i above j and part", Examples.twoKinds().span(0, 0, 1, 0, -1), -1);
    }
}
