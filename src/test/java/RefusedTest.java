/**
 * Each call that the document refuses, in each state: it throws just the class that is named first
 * among those that apply, and all that can be got out of the object is as in one without that call.
 */
public final class RefusedTest {
    private static final int LOW = Integer.MIN_VALUE;
    private static final int HIGH = Integer.MAX_VALUE;
    private static final int W = Shows.WIDTH;
    private static final int H = Shows.HEIGHT;

    // The last four are cells of a wider or higher grid, or lie in it if x and y are taken for one number.
    private static final int[][] NO_CELLS = {{-1, 0}, {W, 0}, {0, -1}, {0, H}, {-1, -1}, {W, H}, {LOW, 0},
        {HIGH, 0}, {0, LOW}, {0, HIGH}, {-1, 1}, {W, H - 1}, {9, 0}, {W - 1, H}};
    private static final int[] NO_SIZES = {LOW, -1, 0, 5, 6, HIGH};
    private static final int[] NO_CLASSES = {LOW, -1, 4, HIGH};

    private interface Call {
        long answer(CaseLayout layout);
    }

    private final Shows show;
    private final String untouched;
    private final int things;
    private final int places;
    private int refusals = 0;

    private RefusedTest(Shows show) {
        this.show = show;
        CaseLayout layout = show.made();
        things = layout.count(0);
        places = layout.count(1);
        untouched = Whole.of(layout, W, H);
    }

    public static void main(String[] args) {
        for (Shows show : Shows.values()) {
            RefusedTest test = new RefusedTest(show);
            test.cells();
            test.zoneClasses();
            test.thingSizesAndClasses();
            test.pairs();
            test.placesAndExits();
            test.placesWithThings();
            test.numbersAlone();
            test.asked();
            test.manyInARow();
            Check.due(show + " was refused enough", test.refusals > 150, true);
        }
        Check.end();
    }

    /** No such cell comes before anything else that is wrong too. */
    private void cells() {
        for (int[] n : NO_CELLS) {
            int x = n[0];
            int y = n[1];
            String where = " " + x + " " + y;
            index("wall" + where, layout -> layout.wall(x, y, true) ? 1 : 0);
            index("wall off" + where, layout -> layout.wall(x, y, false) ? 1 : 0);
            index("zone" + where, layout -> layout.zone(x, y, 2));
            index("zone of no class" + where, layout -> layout.zone(x, y, 4));
            index("place" + where, layout -> layout.place(x, y));
            index("exit" + where, layout -> layout.exit(x, y));
            index("escape" + where, layout -> layout.escape(x, y));
        }
    }

    private void zoneClasses() {
        for (int c : NO_CLASSES) {
            argument("zone of class " + c, layout -> layout.zone(0, 3, c));
            argument("zone of class " + c + " at the last cell", layout -> layout.zone(W - 1, H - 1, c));
        }
    }

    /** Of seven things there is no eighth, right or wrong. */
    private void thingSizesAndClasses() {
        String due = show.isFull() ? "IllegalStateException" : "IllegalArgumentException";
        for (int n : NO_SIZES) {
            refused("thing with w " + n, due, layout -> layout.thing(n, 1, 0));
            refused("thing with h " + n, due, layout -> layout.thing(4, n, 3));
        }
        for (int c : NO_CLASSES) {
            refused("thing with class " + c, due, layout -> layout.thing(1, 4, c));
        }
        refused("thing with all wrong", due, layout -> layout.thing(5, 0, 4));
        if (show.isFull()) {
            refused("an eighth thing", due, layout -> layout.thing(1, 1, 0));
        }
    }

    private void pairs() {
        for (int none : new int[] {LOW, -1, things, 7, HIGH}) {
            for (int value : new int[] {-1, 0, 1, 100}) {
                String with = none + " with " + value;
                index("apart of a " + with, layout -> layout.apart(none, 0, value));
                index("apart of b " + with, layout -> layout.apart(0, none, value));
                index("apart of both " + with, layout -> layout.apart(none, none, value));
                index("wish of a " + with, layout -> layout.wish(none, 0, value));
                index("wish of b " + with, layout -> layout.wish(0, none, value));
                index("wish of both " + with, layout -> layout.wish(none, none, value));
            }
        }
        if (show.hasThings()) {
            wrongPairs();
        }
    }

    private void wrongPairs() {
        int last = things - 1;
        for (int value : new int[] {-1, 0, 1, 5}) {
            argument("apart of the first and itself by " + value, layout -> layout.apart(0, 0, value));
            argument("apart of the last and itself by " + value, layout -> layout.apart(last, last, value));
            argument("wish of the first and itself, worth " + value, layout -> layout.wish(0, 0, value));
            argument("wish of the last and itself, worth " + value, layout -> layout.wish(last, last, value));
        }
        for (int steps : new int[] {LOW, -1, 6, 7, HIGH}) {
            argument("apart by " + steps, layout -> layout.apart(0, last, steps));
            argument("apart, turned round, by " + steps, layout -> layout.apart(last, 0, steps));
        }
        for (int worth : new int[] {LOW, -1, 100, 101, HIGH}) {
            argument("wish worth " + worth, layout -> layout.wish(0, last, worth));
            argument("wish, turned round, worth " + worth, layout -> layout.wish(last, 0, worth));
        }
    }

    /** Walls are at 2, 1 and 4, 3; exits are at 0, 0 and 3, 2; cell 1, 0 bears nothing. */
    private void placesAndExits() {
        if (show.isFull()) {
            state("a ninth place", layout -> layout.place(1, 0));
            state("a ninth place on a wall", layout -> layout.place(2, 1));
            state("a seventh exit", layout -> layout.exit(1, 0));
            state("a seventh exit on a wall", layout -> layout.exit(4, 3));
            state("a seventh exit on an exit", layout -> layout.exit(0, 0));
        } else if (show.hasThings()) {
            argument("a place on a wall", layout -> layout.place(2, 1));
            argument("a place on the last wall", layout -> layout.place(4, 3));
            argument("an exit on a wall", layout -> layout.exit(2, 1));
            argument("an exit on the last wall", layout -> layout.exit(4, 3));
            argument("an exit on the first exit", layout -> layout.exit(0, 0));
            argument("an exit on the last exit", layout -> layout.exit(3, 2));
        }
    }

    private void placesWithThings() {
        for (int none : new int[] {LOW, -1, 8, HIGH}) {
            seesAndSight(none, 0);
            seesAndSight(0, none);
            seesAndSight(none, none);
        }
        seesAndSight(places, 0);
        seesAndSight(0, things);
        seesAndSight(places, things);
        seesAndSight(Math.max(0, places - 1), things);
        seesAndSight(places, Math.max(0, things - 1));
    }

    private void seesAndSight(int place, int thing) {
        String of = " " + place + " " + thing;
        index("sees" + of, layout -> layout.sees(place, thing, true) ? 1 : 0);
        index("sees no more" + of, layout -> layout.sees(place, thing, false) ? 1 : 0);
        index("sight" + of, layout -> layout.sight(place, thing) ? 1 : 0);
    }

    private void numbersAlone() {
        for (int steps : new int[] {LOW, -1, 100, 101, HIGH}) {
            argument("most " + steps, layout -> layout.most(steps));
        }
        for (int nodes : new int[] {LOW, -1, 20001, 20002, HIGH}) {
            argument("run " + nodes, layout -> layout.run(nodes));
        }
        for (int what : new int[] {LOW, -1, 4, 5, HIGH}) {
            index("count " + what, layout -> layout.count(what));
        }
    }

    /** A wrong number comes before a layout that is not there. */
    private void asked() {
        for (int none : new int[] {LOW, -1, things, 7, HIGH}) {
            index("at, x of thing " + none, layout -> layout.at(none, 0));
            index("at, y of thing " + none, layout -> layout.at(none, 1));
            index("at, neither of thing " + none, layout -> layout.at(none, 2));
        }
        for (int what : new int[] {LOW, -1, 2, 3, HIGH}) {
            index("at, " + what + " of the first thing", layout -> layout.at(0, what));
            index("at, " + what + " of the last thing", layout -> layout.at(things - 1, what));
        }
        if (!show.hasFound()) {
            state("escape from the first cell", layout -> layout.escape(0, 0));
            state("escape from the last cell", layout -> layout.escape(W - 1, H - 1));
        }
        if (!show.hasFound() && show.hasThings()) {
            state("x of the first thing", layout -> layout.at(0, 0));
            state("y of the last thing", layout -> layout.at(things - 1, 1));
            state("sight of the first", layout -> layout.sight(0, 0) ? 1 : 0);
            state("sight of the last", layout -> layout.sight(places - 1, things - 1) ? 1 : 0);
        }
    }

    /** Many refusals change no more than one does. */
    private void manyInARow() {
        CaseLayout layout = show.made();
        for (int[] n : NO_CELLS) {
            Check.answer(() -> layout.wall(n[0], n[1], true) ? 1 : 0);
            Check.answer(() -> layout.zone(n[0], n[1], 1));
            Check.answer(() -> layout.place(n[0], n[1]));
            Check.answer(() -> layout.exit(n[0], n[1]));
        }
        for (int n : NO_SIZES) {
            Check.answer(() -> layout.thing(n, n, n));
            Check.answer(() -> layout.sees(n == 5 ? 8 : -1, n, true) ? 1 : 0);
            Check.answer(() -> layout.apart(n, n, n));
            Check.answer(() -> layout.wish(n, n, n));
        }
        Check.due(show + " after many refusals", Whole.of(layout, W, H), untouched);
    }

    private void index(String name, Call call) {
        refused(name, "IndexOutOfBoundsException", call);
    }

    private void state(String name, Call call) {
        refused(name, "IllegalStateException", call);
    }

    private void argument(String name, Call call) {
        refused(name, "IllegalArgumentException", call);
    }

    private void refused(String name, String due, Call call) {
        CaseLayout layout = show.made();
        Check.due(show + ", " + name, Check.answer(() -> call.answer(layout)), due);
        Check.due(show + ", " + name + ", and all after it", Whole.of(layout, W, H), untouched);
        refusals++;
    }
}
