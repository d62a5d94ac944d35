/** Empty and full: what each method answers with none or all of something, and with no layout found. */
public final class StatesTest {
    private static final String INDEX = "IndexOutOfBoundsException";
    private static final String STATE = "IllegalStateException";
    private static final String ARGUMENT = "IllegalArgumentException";
    private static final int W = Shows.WIDTH;
    private static final int H = Shows.HEIGHT;

    private interface Change {
        long answer(CaseLayout layout);
    }

    public static void main(String[] args) {
        statesAreAsNamed();
        noThings();
        noThingsWithPlacesAndExits();
        sixThingsAndSeven();
        sevenThingsUsed();
        noPlaces();
        sevenPlacesAndEight();
        noExits();
        fiveExitsAndSix();
        sixExitsUsed();
        noWallsAndAll();
        noLayoutFound();
        layoutOfSpentNodes();
        whatForgets();
        whatForgetsNothing();
        askingChangesNothing();
        Check.end();
    }

    private static void statesAreAsNamed() {
        for (Shows show : Shows.values()) {
            CaseLayout layout = show.made();
            Check.due(show + " has found", layout.worth() != CaseLayout.NONE, show.hasFound());
            Check.due(show + " things", layout.count(0), show.isFull() ? 7 : show.hasThings() ? 3 : 0);
            Check.due(show + " places", layout.count(1), show.isFull() ? 8 : show.hasThings() ? 2 : 0);
            Check.due(show + " exits", layout.count(2), show.isFull() ? 6 : show.hasThings() ? 2 : 0);
            Check.due(show + " walls", layout.count(3), show.hasThings() ? 2 : 0);
        }
        Check.due("found", Shows.FOUND.made().run(20000), 0);
        Check.due("nodes spent with a layout", Shows.NODES_SPENT_WITH_A_LAYOUT.made().run(20), 1);
        Check.due("nodes spent without", Shows.NODES_SPENT_WITHOUT_A_LAYOUT.made().run(2), 1);
        Check.due("no layout", Shows.NO_LAYOUT.made().run(20000), 2);
    }

    private static void noThings() {
        CaseLayout layout = new CaseLayout(W, H);
        noThingsThere("without a run", layout);
        Check.due("no nodes", layout.nodes(), 0);
        Check.due("no worth", layout.worth(), CaseLayout.NONE);
        Check.due("no escape", Check.answer(() -> layout.escape(0, 0)), STATE);
        for (int nodes : new int[] {0, 1, 20000}) {
            Check.due("run " + nodes + " without things", layout.run(nodes), 0);
            Check.due("its nodes", layout.nodes(), 0);
            Check.due("its worth", layout.worth(), 0);
            Check.due("its escape", layout.escape(W - 1, H - 1), CaseLayout.NONE);
            noThingsThere("after a run", layout);
        }
        Check.due("forgotten", layout.zone(0, 0, 0), 0);
        Check.due("no worth again", layout.worth(), CaseLayout.NONE);
        Check.due("the first thing", layout.thing(1, 1, 0), 0);
    }

    private static void noThingsThere(String when, CaseLayout layout) {
        Check.due("no things " + when, layout.count(0), 0);
        Check.due("at " + when, Check.answer(() -> layout.at(0, 0)), INDEX);
        Check.due("apart " + when, Check.answer(() -> layout.apart(0, 1, 1)), INDEX);
        Check.due("apart of one " + when, Check.answer(() -> layout.apart(0, 0, 1)), INDEX);
        Check.due("wish " + when, Check.answer(() -> layout.wish(0, 1, 1)), INDEX);
        Check.due("wish of one " + when, Check.answer(() -> layout.wish(0, 0, 1)), INDEX);
        Check.due("sees " + when, Check.answer(() -> layout.sees(0, 0, true) ? 1 : 0), INDEX);
        Check.due("sight " + when, Check.answer(() -> layout.sight(0, 0) ? 1 : 0), INDEX);
    }

    private static void noThingsWithPlacesAndExits() {
        CaseLayout layout = new CaseLayout(3, 1);
        layout.place(0, 0);
        layout.exit(2, 0);
        layout.most(0);
        noThingsThere("with a place", layout);
        Check.due("nothing needs an escape", layout.run(0), 0);
        Check.due("worth", layout.worth(), 0);
        Check.due("on the exit", layout.escape(2, 0), 0);
        Check.due("farther than the most", layout.escape(0, 0), 2);
        noThingsThere("with a place and a run", layout);
    }

    private static void sixThingsAndSeven() {
        CaseLayout layout = new CaseLayout(7, 1);
        for (int number = 0; number < 6; number++) {
            Check.due("thing", layout.thing(1, 1, 0), number);
        }
        Check.due("six", layout.count(0), 6);
        Check.due("apart with a seventh", Check.answer(() -> layout.apart(0, 6, 1)), INDEX);
        Check.due("wish with a seventh", Check.answer(() -> layout.wish(6, 0, 1)), INDEX);
        Check.due("at of a seventh", Check.answer(() -> layout.at(6, 0)), INDEX);
        Check.due("the seventh", layout.thing(1, 1, 0), 6);
        Check.due("seven", layout.count(0), 7);
        Check.due("the eighth", Check.answer(() -> layout.thing(1, 1, 0)), STATE);
        Check.due("still seven", layout.count(0), 7);
        Check.due("apart with an eighth", Check.answer(() -> layout.apart(0, 7, 1)), INDEX);
        Check.due("wish with an eighth", Check.answer(() -> layout.wish(7, 0, 1)), INDEX);
        Check.due("at of an eighth", Check.answer(() -> layout.at(7, 0)), INDEX);
        Check.due("run", layout.run(20000), 0);
        // 7 + 7 * 6 + .. + 7!: each try lies on a cell that is left.
        Check.due("nodes of seven in a row of seven", layout.nodes(), 13699);
        for (int number = 0; number < 7; number++) {
            Check.due("x of " + number, layout.at(number, 0), number);
            Check.due("y of " + number, layout.at(number, 1), 0);
        }
        Check.due("nothing is free", layout.escape(3, 0), CaseLayout.NONE);
    }

    private static void sevenThingsUsed() {
        CaseLayout layout = new CaseLayout(9, 1);
        for (int number = 0; number < 7; number++) {
            layout.thing(1, 1, number == 5 ? 1 : number == 6 ? 2 : 3);
            layout.zone(number, 0, 3);
        }
        layout.zone(6, 0, 1);
        layout.zone(8, 0, 2);
        layout.place(7, 0);
        Check.due("the last pair's apart", layout.apart(5, 6, 1), 0);
        Check.due("the last pair's wish", layout.wish(6, 5, 99), 0);
        Check.due("the last pair's wish, turned round", layout.wish(5, 6, 1), 99);
        Check.due("the first and the last", layout.wish(0, 6, 50), 0);
        Check.due("the last is to be seen", layout.sees(0, 6, true), true);
        layout.run(10);
        Check.due("a gap of one", layout.at(6, 0) - layout.at(5, 0), 2);
        Check.due("worth", layout.worth(), 0);
        Check.due("sight of the last", layout.sight(0, 6), true);
        Check.due("sight of the one before", layout.sight(0, 5), true);
        Check.due("sight behind it", layout.sight(0, 4), false);
        layout.apart(6, 5, 2);
        Check.due("a gap of two there is not", layout.run(2000), 2);
    }

    private static void noPlaces() {
        CaseLayout layout = new CaseLayout(2, 2);
        layout.thing(1, 1, 0);
        for (int i = 0; i < 2; i++) {
            Check.due("no places", layout.count(1), 0);
            Check.due("sees", Check.answer(() -> layout.sees(0, 0, true) ? 1 : 0), INDEX);
            Check.due("sees not", Check.answer(() -> layout.sees(0, 0, false) ? 1 : 0), INDEX);
            Check.due("sight", Check.answer(() -> layout.sight(0, 0) ? 1 : 0), INDEX);
            Check.due("run", layout.run(4), 0);
        }
        Check.due("the first place", layout.place(1, 1), 0);
        Check.due("it need not see", layout.sees(0, 0, false), false);
    }

    private static void sevenPlacesAndEight() {
        CaseLayout layout = new CaseLayout(9, 2);
        layout.thing(1, 1, 1);
        layout.zone(8, 0, 1);
        for (int number = 0; number < 7; number++) {
            Check.due("place", layout.place(number, 0), number);
        }
        Check.due("seven", layout.count(1), 7);
        Check.due("the eighth, not yet", Check.answer(() -> layout.sees(7, 0, true) ? 1 : 0), INDEX);
        Check.due("the eighth", layout.place(7, 1), 7);
        Check.due("eight", layout.count(1), 8);
        Check.due("the ninth", Check.answer(() -> layout.place(8, 1)), STATE);
        Check.due("still eight", layout.count(1), 8);
        Check.due("sees of a ninth", Check.answer(() -> layout.sees(8, 0, true) ? 1 : 0), INDEX);
        Check.due("no wall on the first", layout.wall(0, 0, true), false);
        Check.due("no wall on the eighth", layout.wall(7, 1, true), false);
        Check.due("a wall where the ninth was refused", layout.wall(8, 1, true), true);
        Check.due("a wall where none is", layout.wall(7, 0, true), true);
        layout.run(1);
        for (int place = 0; place < 8; place++) {
            Check.due("sight from " + place, layout.sight(place, 0), place == 7);
        }
        Check.due("sight from a ninth", Check.answer(() -> layout.sight(8, 0) ? 1 : 0), INDEX);
        Check.due("the eighth has to see", layout.sees(7, 0, true), true);
        Check.due("and does", layout.run(1), 0);
        Check.due("the seventh has to see", layout.sees(6, 0, true), true);
        Check.due("and does not", layout.run(1), 2);
        Check.due("it need not", layout.sees(6, 0, false), true);
        Check.due("the first has to see", layout.sees(0, 0, true), true);
        Check.due("and does not", layout.run(1), 2);
    }

    private static void noExits() {
        CaseLayout layout = new CaseLayout(2, 1);
        layout.thing(2, 1, 0);
        layout.most(0);
        Check.due("no exits", layout.count(2), 0);
        Check.due("no way is needed", layout.run(1), 0);
        Check.due("under the thing", layout.escape(0, 0), CaseLayout.NONE);
        CaseLayout free = new CaseLayout(2, 2);
        free.thing(1, 1, 0);
        free.run(4);
        Check.due("free, without exits", free.escape(1, 1), CaseLayout.NONE);
        Check.due("the first exit", free.exit(0, 0), 1);
        Check.due("is no wall", free.wall(0, 0, true), false);
        free.run(4);
        Check.due("the thing leaves it free", free.at(0, 0), 1);
        Check.due("a way now", free.escape(1, 1), 2);
    }

    private static void fiveExitsAndSix() {
        CaseLayout layout = new CaseLayout(9, 1);
        layout.wall(8, 0, true);
        for (int number = 1; number <= 5; number++) {
            Check.due("exit", layout.exit(number - 1, 0), number);
        }
        Check.due("five", layout.count(2), 5);
        Check.due("five, and a wall", Check.answer(() -> layout.exit(8, 0)), ARGUMENT);
        Check.due("five, and an exit", Check.answer(() -> layout.exit(4, 0)), ARGUMENT);
        Check.due("still five", layout.count(2), 5);
        Check.due("the sixth", layout.exit(5, 0), 6);
        Check.due("six", layout.count(2), 6);
        Check.due("the seventh", Check.answer(() -> layout.exit(6, 0)), STATE);
        Check.due("six, and a wall", Check.answer(() -> layout.exit(8, 0)), STATE);
        Check.due("six, and an exit", Check.answer(() -> layout.exit(5, 0)), STATE);
        Check.due("six, and no cell", Check.answer(() -> layout.exit(9, 0)), INDEX);
        Check.due("still six", layout.count(2), 6);
        Check.due("no wall on the first", layout.wall(0, 0, true), false);
        Check.due("no wall on the sixth", layout.wall(5, 0, true), false);
        Check.due("a wall where the seventh was refused", layout.wall(6, 0, true), true);
        Check.due("a place on the sixth", layout.place(5, 0), 0);
    }

    private static void sixExitsUsed() {
        CaseLayout layout = new CaseLayout(9, 1);
        for (int number = 0; number < 6; number++) {
            layout.exit(number, 0);
        }
        layout.run(0);
        for (int x = 0; x < 9; x++) {
            Check.due("escape from " + x, layout.escape(x, 0), Math.max(0, x - 5));
        }
        covered(layout);
        Check.due("no free cell beside the first thing", layout.run(9), 2);
        layout.zone(5, 0, 2);
        Check.due("the second may lie one farther", layout.run(9), 0);
        Check.due("it does", layout.at(1, 0), 5);
        Check.due("the exit between them", layout.escape(4, 0), 0);
        Check.due("no exit behind the second", layout.escape(6, 0), CaseLayout.NONE);
        CaseLayout rows = new CaseLayout(9, 2);
        for (int number = 0; number < 6; number++) {
            rows.exit(number, 0);
        }
        covered(rows);
        Check.due("five are covered, the sixth is free", rows.run(9), 0);
        Check.due("the way round to it", rows.escape(0, 1), 6);
        rows.most(3);
        Check.due("three steps from below the first thing's end", rows.run(9), 0);
        rows.most(2);
        Check.due("two are too few", rows.run(9), 2);
    }

    /** The first thing lies at 0, 0 to 3, 0, the second at 4, 0. */
    private static void covered(CaseLayout layout) {
        layout.thing(4, 1, 1);
        layout.thing(1, 1, 2);
        for (int x = 0; x < 5; x++) {
            layout.zone(x, 0, x < 4 ? 1 : 2);
        }
    }

    private static void noWallsAndAll() {
        CaseLayout layout = new CaseLayout(9, 9);
        for (int cell = 0; cell < 81; cell++) {
            Check.due("walls", layout.count(3), cell);
            Check.due("wall", layout.wall(cell % 9, cell / 9, true), true);
        }
        Check.due("all walls", layout.count(3), 81);
        Check.due("one again", layout.wall(8, 8, true), false);
        Check.due("still all", layout.count(3), 81);
        Check.due("no things, but a layout", layout.run(0), 0);
        Check.due("no cell is free", layout.escape(4, 4), CaseLayout.NONE);
        Check.due("a place", Check.answer(() -> layout.place(8, 8)), ARGUMENT);
        Check.due("an exit", Check.answer(() -> layout.exit(0, 0)), ARGUMENT);
        layout.thing(1, 1, 0);
        Check.due("it lies nowhere", layout.run(0), 2);
        Check.due("no nodes", layout.nodes(), 0);
        Check.due("a wall goes", layout.wall(8, 8, false), true);
        Check.due("one to come", layout.run(0), 1);
        Check.due("it lies there", layout.run(1), 0);
        Check.due("x", layout.at(0, 0), 8);
        Check.due("y", layout.at(0, 1), 8);
        for (int cell = 0; cell < 80; cell++) {
            layout.wall(cell % 9, cell / 9, false);
        }
        Check.due("no walls", layout.count(3), 0);
        Check.due("one off that is off", layout.wall(0, 0, false), false);
        Check.due("still none", layout.count(3), 0);
    }

    private static void noLayoutFound() {
        int[] nodes = {0, 2, 13, 0, 0, 5000};
        Shows[] shows = {Shows.WITHOUT_A_RUN, Shows.NODES_SPENT_WITHOUT_A_LAYOUT, Shows.NO_LAYOUT,
            Shows.FORGOTTEN, Shows.NEW, Shows.FULL_WITHOUT_A_LAYOUT};
        for (int i = 0; i < shows.length; i++) {
            CaseLayout layout = shows[i].made();
            nothingFound(shows[i].name(), layout, nodes[i]);
            Check.due("count", layout.count(3), shows[i].hasThings() ? 2 : 0);
        }
    }

    private static void nothingFound(String name, CaseLayout layout, int nodes) {
        Check.due(name + ", nodes", layout.nodes(), nodes);
        Check.due(name + ", worth", layout.worth(), CaseLayout.NONE);
        int things = layout.count(0);
        int places = layout.count(1);
        for (int i = 0; i < things; i++) {
            int number = i;
            Check.due(name + ", x of " + number, Check.answer(() -> layout.at(number, 0)), STATE);
            Check.due(name + ", y of " + number, Check.answer(() -> layout.at(number, 1)), STATE);
            for (int j = 0; j < places; j++) {
                int place = j;
                Check.due(name + ", sight from " + place + " of " + number,
                        Check.answer(() -> layout.sight(place, number) ? 1 : 0), STATE);
            }
        }
        for (int i = 0; i < W * H; i++) {
            int cell = i;
            Check.due(name + ", escape from " + cell, Check.answer(() -> layout.escape(cell % W, cell / W)), STATE);
        }
    }

    /** The nodes were spent; the best of what was looked at is told, as the latest run found it. */
    private static void layoutOfSpentNodes() {
        int before = CaseLayout.NONE;
        for (int nodes = 0; nodes < 175; nodes++) {
            CaseLayout spent = Shows.WITHOUT_A_RUN.made();
            Check.due("run " + nodes, spent.run(nodes), 1);
            Check.due("nodes of run " + nodes, spent.nodes(), nodes);
            Check.due("more nodes are worth no less, " + nodes, spent.worth() >= before, true);
            before = spent.worth();
        }
        CaseLayout layout = Shows.WITHOUT_A_RUN.made();
        Check.due("all", layout.run(175), 0);
        Check.due("the best", layout.worth(), 16);
        Check.due("fewer", layout.run(2), 1);
        nothingFound("what an earlier run found is no more", layout, 2);
        Check.due("some more", layout.run(20), 1);
        Check.due("what is found within twenty", layout.worth(), 9);
    }

    private static void whatForgets() {
        forgets("wall on", layout -> layout.wall(1, 1, true) ? 1 : 0, 1);
        forgets("wall off", layout -> layout.wall(2, 1, false) ? 1 : 0, 1);
        forgets("zone", layout -> layout.zone(4, 0, 3), 2);
        forgets("zone as it was", layout -> layout.zone(4, 0, 2), 2);
        forgets("thing", layout -> layout.thing(1, 1, 0), 3);
        forgets("apart", layout -> layout.apart(0, 2, 1), 0);
        forgets("apart as it was", layout -> layout.apart(1, 0, 1), 1);
        forgets("wish", layout -> layout.wish(0, 1, 1), 0);
        forgets("wish as it was", layout -> layout.wish(2, 1, 9), 9);
        forgets("sees", layout -> layout.sees(1, 1, true) ? 1 : 0, 1);
        forgets("sees as it was", layout -> layout.sees(0, 0, true) ? 1 : 0, 0);
        forgets("sees no more", layout -> layout.sees(0, 0, false) ? 1 : 0, 1);
        forgets("exit", layout -> layout.exit(1, 3), 3);
        forgets("most", layout -> layout.most(7), 6);
        forgets("most as it was", layout -> layout.most(6), 6);
    }

    private static void forgets(String name, Change change, long due) {
        for (Shows show : new Shows[] {Shows.FOUND, Shows.NODES_SPENT_WITH_A_LAYOUT}) {
            CaseLayout layout = show.made();
            Check.due(show + ", " + name, change.answer(layout), due);
            nothingFound(show + ", after " + name, layout, 0);
        }
        CaseLayout without = Shows.NODES_SPENT_WITHOUT_A_LAYOUT.made();
        Check.due("without a layout, " + name, change.answer(without), due);
        Check.due("the nodes are forgotten, too, by " + name, without.nodes(), 0);
    }

    private static void whatForgetsNothing() {
        keeps("wall on a wall", layout -> layout.wall(2, 1, true) ? 1 : 0, 0);
        keeps("wall off where none is", layout -> layout.wall(1, 1, false) ? 1 : 0, 0);
        keeps("wall on an exit", layout -> layout.wall(0, 0, true) ? 1 : 0, 0);
        keeps("wall on a place", layout -> layout.wall(0, 2, true) ? 1 : 0, 0);
        keeps("wall off at an exit", layout -> layout.wall(3, 2, false) ? 1 : 0, 0);
        keeps("wall off at a place", layout -> layout.wall(3, 3, false) ? 1 : 0, 0);
    }

    private static void keeps(String name, Change change, long due) {
        for (Shows show : Shows.values()) {
            if (show.hasThings() && !show.isFull()) {
                CaseLayout layout = show.made();
                Check.due(show + ", " + name, change.answer(layout), due);
                Check.due(show + ", all after " + name, Whole.of(layout, W, H), Whole.of(show.made(), W, H));
            }
        }
    }

    /** A place that comes after a run is asked of that run's layout; what was read before stays. */
    private static void askingChangesNothing() {
        for (Shows show : Shows.values()) {
            CaseLayout layout = show.made();
            String before = Whole.readOnly(layout, W, H);
            Check.due(show + ", read again", Whole.readOnly(layout, W, H), before);
            if (!show.isFull()) {
                Check.due(show + ", a place more", layout.place(1, 1), layout.count(1) - 1);
                String places = "count 1: " + layout.count(1);
                String after = Whole.readOnly(layout, W, H).replace(places, "count 1: " + (layout.count(1) - 1));
                Check.due(show + ", nodes, worth and ways stay", without(after), without(before));
            }
        }
    }

    private static String without(String text) {
        return text.replaceAll("sight [^\n]*\n", "");
    }
}
