/** Objects that several tests begin with; what they hold is worked out here by hand. */
final class Examples {
    private Examples() {
    }

    /**
     * Two states over the signs 0, 1. The ways above 0, as they are before one another:
     * 0, 1 (state 0 stays): 3 * 2 * 1 = 6; 0, 2: 2 * 2 * 3 = 12; 2, 0: 1 * 1 * 1 = 1. TOTAL is 19.
     */
    static HiddenRows twoStates() {
        HiddenRows x = new HiddenRows();
        x.state();
        x.state();
        x.weight(0, 5, 2);
        x.weight(0, 6, 1);
        x.weight(1, 5, 1);
        x.weight(1, 6, 3);
        x.weight(0, 3, 3);
        x.move(0, 1, 2);
        x.move(1, 0, 1);
        x.sign(0);
        x.sign(1);
        return x;
    }

    /** As above, but LAST of state 0 is 2: 12, 12 and 2, TOTAL is 26. */
    static HiddenRows twoStatesTied() {
        HiddenRows x = twoStates();
        x.weight(0, 1, 2);
        return x;
    }

    /**
     * Two kinds over the signs 0, 0, 1. RULES 0 -> 0 1: 2, 0 -> 1 0: 1, 1 -> 0 0: 3; LEAVES of 0: 1 and 4, of 1: 2 and 0.
     * Trees of kind 0 over the places: split at 1: 0 (1) and 1 over "0 1" (3 * 1 * 4 = 12): 24;
     * 1 (2) and 0 over "0 1" (0 1: 0; 1 0: 2 * 4 = 8): 16; split at 2: 0 over "0 0" (0 1: 4; 1 0: 2) and 1 (0): 0;
     * 1 over "0 0" (3) and 0 (4): 12. In all 52, of three trees.
     */
    static HiddenRows twoKinds() {
        HiddenRows x = new HiddenRows();
        addTwoKinds(x);
        x.sign(0);
        x.sign(0);
        x.sign(1);
        return x;
    }

    static void addTwoKinds(HiddenRows x) {
        x.kind();
        x.kind();
        x.rule(0, 0, 1, 2);
        x.rule(0, 1, 0, 1);
        x.rule(1, 0, 0, 3);
        x.leaf(0, 0, 1);
        x.leaf(0, 1, 4);
        x.leaf(1, 0, 2);
    }

    /** One state that shows sign 0 and moves to itself, over n such signs; LAST and STAY are 1. */
    static HiddenRows oneState(int n) {
        HiddenRows x = new HiddenRows();
        x.state();
        x.weight(0, 5, 1);
        x.move(0, 0, 1);
        for (int i = 0; i < n; i++) {
            x.sign(0);
        }
        return x;
    }

    /** As above, but it stays 1, 2 or 3 places, each weighing 1: all ways of one state, each of weight 1. */
    static HiddenRows oneStateOfAllStays(int n) {
        HiddenRows x = oneState(n);
        x.weight(0, 3, 1);
        x.weight(0, 4, 1);
        return x;
    }

    /** One kind whose rule, and whose leaf of sign 0, weigh 1, over n such signs: each tree weighs 1. */
    static HiddenRows oneKind(int n) {
        HiddenRows x = new HiddenRows();
        x.kind();
        x.rule(0, 0, 0, 1);
        x.leaf(0, 0, 1);
        for (int i = 0; i < n; i++) {
            x.sign(0);
        }
        return x;
    }

    /** Four states and four kinds, no weight set, six signs 0: there is no room for more of any. */
    static HiddenRows full() {
        HiddenRows x = new HiddenRows();
        for (int i = 0; i < 4; i++) {
            x.state();
            x.kind();
        }
        for (int i = 0; i < 6; i++) {
            x.sign(0);
        }
        return x;
    }

    /** Every weight is 4, all six signs are missing: nothing can be greater. */
    static HiddenRows greatest() {
        HiddenRows x = full();
        for (int a = 0; a < 4; a++) {
            for (int what = 0; what < 9; what++) {
                x.weight(a, what, 4);
            }
            for (int b = 0; b < 4; b++) {
                x.move(a, b, 4);
                x.leaf(a, b, 4);
                for (int c = 0; c < 4; c++) {
                    x.rule(a, b, c, 4);
                }
            }
        }
        x.clear();
        for (int i = 0; i < 6; i++) {
            x.sign(-1);
        }
        return x;
    }
}
