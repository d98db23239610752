/** All that can be asked of an object, as one row: whether two objects are alike is seen by it. */
final class View {
    private static final int MOST = 300;

    private final long[] seen = new long[MOST];
    private final String[] asked = new String[MOST];
    private int length;

    private View() {
    }

    /** Some 250 calls: an object may be looked at twice, but is better looked at once. */
    static View of(ListenWells x) {
        View view = new View();
        view.addPlaces(x);
        view.addFolk(x);
        view.addRest(x);
        return view;
    }

    private void add(String call, long answer) {
        asked[length] = call;
        seen[length] = answer;
        length++;
    }

    private void addPlaces(ListenWells x) {
        for (int cell = 0; cell < 40; cell++) {
            for (int what = 0; what < 4; what++) {
                add("at(" + cell + ", " + what + ")", x.at(cell, what));
            }
        }
        for (int shaft = 0; shaft < 6; shaft++) {
            add("of(" + shaft + ", 0)", x.of(shaft, 0));
            add("of(" + shaft + ", 1)", x.of(shaft, 1));
            add("drawn(" + shaft + ", 0)", x.drawn(shaft, 0));
            add("drawn(" + shaft + ", 1)", x.drawn(shaft, 1));
        }
        add("drawn(0, 2)", x.drawn(0, 2));
    }

    private void addFolk(ListenWells x) {
        for (int k = 0; k < 6; k++) {
            for (int what = 0; what < 5; what++) {
                add("who(" + k + ", " + what + ")", x.who(k, what));
            }
        }
        add("hidden()", x.hidden());
        add("tongue(1)", x.tongue(1));
    }

    private void addRest(ListenWells x) {
        for (int what = 0; what < 18; what++) {
            // how many calls were REFUSED is no matter of how things stand
            if (what < 9 || what > 13) {
                add("count(" + what + ")", x.count(what));
            }
        }
        for (int law = -1; law < 6; law++) {
            add("compare(" + law + ")", x.compare(law));
        }
        add("at(17, 4)", x.at(17, 4));
        add("fault()", x.fault());
        add("mud()", x.mud());
        add("stopped()", x.stopped());
    }

    /** Every answer is due as in the other view. */
    void mustBe(String when, View other) {
        for (int k = 0; k < length; k++) {
            Check.due(when + ": " + asked[k], seen[k], other.seen[k]);
        }
    }
}
