/**
 * What an object answers and stores, as one text. Of the questions only so many are asked that a full object stays within
 * its 512 calls (part 0 alone, what the best ways tell for the last place, spans from place 0); all that is stored is told.
 */
final class Portrait {
    private final HiddenRows x;
    private final StringBuilder text = new StringBuilder();
    private int places = 0;
    private int states = 0;
    private int kinds = 0;

    private Portrait(HiddenRows x) {
        this.x = x;
    }

    static String of(HiddenRows x) {
        Portrait portrait = new Portrait(x);
        portrait.measure();
        portrait.askWays();
        portrait.askTrees();
        portrait.askStored();
        return portrait.text.toString();
    }

    private void add(long answer) {
        text.append(answer).append(' ');
    }

    /** Counts by calls that change nothing: part 2 is refused with -2 only if all else is there. */
    private void measure() {
        while (places < 7 && x.top(places) != -1) {
            places++;
        }
        while (states < 5 && x.share(0, states, 2) == -2) {
            states++;
        }
        while (kinds < 5 && x.trees(kinds) != -1) {
            kinds++;
        }
        text.append("places ").append(places).append(" states ").append(states).append(" kinds ").append(kinds);
        text.append(": ");
    }

    private void askWays() {
        for (int place = -1; place <= places; place++) {
            add(x.drawnAt(place));
        }
        add(x.total());
        add(x.ways());
        for (int place = 0; place < places; place++) {
            add(x.top(place));
            for (int state = 0; state < states; state++) {
                add(x.share(place, state, 0));
                add(x.begin(place, state, 0));
                for (int to = 0; place + 1 < places && to < states; to++) {
                    add(x.pair(place, state, to, 0));
                }
            }
        }
        for (int k = 0; k < 10; k++) {
            add(x.best(k));
            add(x.bestAt(k, places - 1));
        }
    }

    private void askTrees() {
        for (int kind = 0; kind < kinds; kind++) {
            add(x.trees(kind));
            add(x.treeCount(kind));
            add(x.treeBest(kind));
            for (int i = 0; i < 2 * places - 1; i++) {
                add(x.treeAt(kind, i));
            }
            for (int i = 0; i < places; i++) {
                add(x.span(kind, kind, 0, i, 0));
            }
        }
    }

    /** What is stored is told by the calls that change it, so these come last. */
    private void askStored() {
        for (int place = 0; place < places; place++) {
            add(x.hold(place, -1));
        }
        for (int state = 0; state < states; state++) {
            for (int what = 0; what < 9; what++) {
                add(x.weight(state, what, 0));
            }
            for (int to = 0; to < states; to++) {
                add(x.move(state, to, 0));
            }
        }
        for (int kind = 0; kind < kinds; kind++) {
            for (int sign = 0; sign < 4; sign++) {
                add(x.leaf(kind, sign, 0));
            }
            for (int parts = 0; parts < kinds * kinds; parts++) {
                add(x.rule(kind, parts / kinds, parts % kinds, 0));
            }
        }
        add(x.clear());
        add(x.state());
        add(x.kind());
    }
}
