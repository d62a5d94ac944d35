/** Each promise by itself: ordinary inputs, the edges that the document names, wrong inputs. */
public final class PromisesTest {
    private static final Class<IndexOutOfBoundsException> INDEX = IndexOutOfBoundsException.class;
    private static final Class<IllegalStateException> STATE = IllegalStateException.class;
    private static final Class<IllegalArgumentException> ARGUMENT = IllegalArgumentException.class;

    public static void main(String[] args) {
        promise1NewObject();
        promise2Wall();
        promise3Zone();
        promise4Thing();
        promise5Apart();
        promise5GapOfColumnsAndRows();
        promise6Wish();
        promise7Place();
        promise8Sees();
        promise9Exit();
        promise10Most();
        promise11Run();
        promise11Order();
        promise12Nodes();
        promise13At();
        promise14Worth();
        promise15Sight();
        promise15SightPastCorners();
        promise15SightOfCoveredPlace();
        promise16Escape();
        promise16Exits();
        promise16Beside();
        promises15And16OfTheBest();
        promise17Count();
        Check.end();
    }

    private static void promise1NewObject() {
        int[][] sizes = {{1, 1, 1, 1}, {9, 9, 9, 9}, {4, 7, 4, 7}, {0, 10, 1, 9}, {-5, 99, 1, 9},
            {Integer.MIN_VALUE, Integer.MAX_VALUE, 1, 9}, {Integer.MAX_VALUE, Integer.MIN_VALUE, 9, 1}};
        for (int[] size : sizes) {
            CaseLayout layout = new CaseLayout(size[0], size[1]);
            String name = "CaseLayout(" + size[0] + ", " + size[1] + ")";
            for (int what = 0; what < 4; what++) {
                Check.due(name + " count " + what, layout.count(what), 0);
            }
            Check.due(name + " nodes", layout.nodes(), 0);
            Check.due(name + " worth", layout.worth(), CaseLayout.NONE);
            Check.due(name + " zone of the last cell", layout.zone(size[2] - 1, size[3] - 1, 1), 0);
            Check.refused(layout, name + " beside", INDEX, () -> layout.zone(size[2], 0, 1));
            Check.refused(layout, name + " below", INDEX, () -> layout.zone(0, size[3], 1));
            Check.due(name + " most", layout.most(5), 99);
        }
    }

    private static void promise2Wall() {
        CaseLayout layout = found(3, 2);
        Check.due("wall off where there is none", layout.wall(1, 1, false), false);
        Check.due("nothing is forgotten by that", layout.worth(), 0);
        Check.due("wall on", layout.wall(1, 1, true), true);
        Check.due("walls", layout.count(3), 1);
        Check.due("wall forgets", layout.worth(), CaseLayout.NONE);
        layout.run(100);
        Check.due("wall on again", layout.wall(1, 1, true), false);
        Check.due("found stays", layout.worth(), 0);
        Check.due("wall off", layout.wall(1, 1, false), true);
        Check.due("wall off forgets", layout.nodes(), 0);
        Check.due("no walls", layout.count(3), 0);
        layout.exit(2, 0);
        layout.place(2, 1);
        layout.run(100);
        Check.due("wall on an exit", layout.wall(2, 0, true), false);
        Check.due("wall on a place", layout.wall(2, 1, true), false);
        Check.due("wall off at an exit", layout.wall(2, 0, false), false);
        Check.due("no wall came", layout.count(3), 0);
        Check.due("found stays too", layout.worth(), 0);
        refusesCells(layout, "wall", 3, 2, (x, y) -> layout.wall(x, y, true) ? 1 : 0);
        layout.place(0, 0);
        Check.due("wall where a place came after the run", layout.wall(0, 0, true), false);
    }

    private static void promise3Zone() {
        CaseLayout layout = found(3, 2);
        Check.due("zone", layout.zone(2, 1, 3), 0);
        Check.due("zone forgets", layout.worth(), CaseLayout.NONE);
        layout.run(100);
        Check.due("zone as it was", layout.zone(2, 1, 3), 3);
        Check.due("that forgets too", layout.worth(), CaseLayout.NONE);
        layout.run(100);
        refusesCells(layout, "zone", 3, 2, (x, y) -> layout.zone(x, y, 1));
        Check.refused(layout, "zone of class -1", ARGUMENT, () -> layout.zone(2, 1, -1));
        Check.refused(layout, "zone of class 4", ARGUMENT, () -> layout.zone(2, 1, 4));
        Check.refused(layout, "zone outside and of class 4", INDEX, () -> layout.zone(3, 1, 4));
        Check.due("zone after refusals", layout.zone(2, 1, 0), 3);
        Check.due("zone of a wall's cell", layout.wall(0, 0, true) ? layout.zone(0, 0, 2) : 9, 0);
    }

    private static void promise4Thing() {
        CaseLayout layout = new CaseLayout(5, 4);
        layout.zone(3, 1, 2);
        layout.zone(3, 2, 2);
        layout.zone(4, 2, 1);
        layout.run(0);
        Check.due("thing", layout.thing(1, 2, 2), 0);
        Check.due("thing forgets", layout.worth(), CaseLayout.NONE);
        Check.due("run with one fitting cell", layout.run(1), 0);
        Check.due("x of a thing of class 2", layout.at(0, 0), 3);
        Check.due("y of a thing of class 2", layout.at(0, 1), 1);
        layout.zone(3, 2, 3);
        Check.due("a cell of another class", layout.run(10), 2);
        layout.zone(3, 2, 2);
        Check.due("the greatest thing", layout.thing(4, 4, 0), 1);
        Check.due("two that overlap everywhere", layout.run(20000), 2);
        int[][] wrong = {{0, 1, 0}, {5, 1, 0}, {1, 0, 0}, {1, 5, 0}, {1, 1, -1}, {1, 1, 4},
            {Integer.MIN_VALUE, 1, 0}, {1, Integer.MAX_VALUE, 0}};
        for (int[] n : wrong) {
            Check.refused(layout, "thing " + n[0] + " " + n[1] + " " + n[2], ARGUMENT,
                    () -> layout.thing(n[0], n[1], n[2]));
        }
        for (int number = 2; number < 7; number++) {
            Check.due("thing", layout.thing(1, 1, 0), number);
        }
        Check.refused(layout, "an eighth thing", STATE, () -> layout.thing(1, 1, 0));
        Check.refused(layout, "an eighth thing, wrong", STATE, () -> layout.thing(0, 9, 9));
        Check.due("things", layout.count(0), 7);
        classZeroLiesEverywhere();
    }

    private static void classZeroLiesEverywhere() {
        CaseLayout layout = new CaseLayout(2, 1);
        layout.zone(0, 0, 1);
        layout.zone(1, 0, 3);
        layout.thing(2, 1, 0);
        Check.due("class 0 on classes 1 and 3", layout.run(1), 0);
        layout.wall(1, 0, true);
        Check.due("on a wall", layout.run(1), 2);
    }

    private static void promise5Apart() {
        CaseLayout layout = new CaseLayout(7, 1);
        layout.thing(1, 1, 0);
        layout.thing(1, 1, 0);
        for (int steps = 1; steps <= 5; steps++) {
            layout.run(100);
            Check.due("apart by " + steps, layout.apart(1, 0, steps), steps - 1);
            Check.due("apart forgets", layout.worth(), CaseLayout.NONE);
            Check.due("run apart by " + steps, layout.run(100), 0);
            Check.due("nodes apart by " + steps, layout.nodes(), 7 + (6 - steps) * (7 - steps));
            Check.due("second's x", layout.at(1, 0), steps + 1);
        }
        Check.due("apart told the other way round", layout.apart(0, 1, 5), 5);
        layout.run(100);
        refusesPairs(layout, "apart", layout::apart);
        Check.refused(layout, "apart by -1", ARGUMENT, () -> layout.apart(0, 1, -1));
        Check.refused(layout, "apart by 6", ARGUMENT, () -> layout.apart(0, 1, 6));
        Check.due("apart by none", layout.apart(0, 1, 0), 5);
        Check.due("apart by none again", layout.apart(1, 0, 0), 0);
        Check.due("run side by side", layout.run(100), 0);
        Check.due("nodes", layout.nodes(), 7 + 7 * 6);
    }

    /** The greater one of columns and rows counts, and things that meet at a corner have none between. */
    private static void promise5GapOfColumnsAndRows() {
        CaseLayout layout = new CaseLayout(4, 4);
        layout.thing(2, 1, 1);
        layout.thing(1, 2, 2);
        layout.zone(0, 0, 1);
        layout.zone(1, 0, 1);
        layout.zone(3, 2, 2);
        layout.zone(3, 3, 2);
        layout.apart(0, 1, 1);
        Check.due("one column and one row between", layout.run(9), 0);
        layout.apart(0, 1, 2);
        Check.due("not two", layout.run(9), 2);
        layout.apart(0, 1, 1);
        layout.zone(2, 1, 2);
        layout.zone(2, 2, 2);
        Check.due("run", layout.run(9), 0);
        Check.due("the corner is passed over", layout.at(1, 0), 3);
        layout.apart(0, 1, 0);
        layout.wish(0, 1, 4);
        layout.run(9);
        Check.due("the corner is side by side", layout.worth(), 4);
        Check.due("its x", layout.at(1, 0), 2);
        Check.due("its y", layout.at(1, 1), 1);
        CaseLayout rows = new CaseLayout(1, 5);
        rows.thing(1, 2, 0);
        rows.thing(1, 1, 0);
        rows.apart(0, 1, 2);
        rows.run(100);
        Check.due("rows alone", rows.at(1, 1), 4);
    }

    private static void promise6Wish() {
        CaseLayout layout = new CaseLayout(5, 1);
        layout.thing(1, 1, 0);
        layout.thing(1, 1, 0);
        layout.thing(1, 1, 0);
        layout.run(1000);
        Check.due("wish", layout.wish(2, 0, 99), 0);
        Check.due("wish forgets", layout.worth(), CaseLayout.NONE);
        Check.due("wish told the other way round", layout.wish(0, 2, 98), 99);
        layout.wish(1, 2, 1);
        layout.run(1000);
        Check.due("both come true", layout.worth(), 99);
        Check.due("the middle one", layout.at(2, 0), 1);
        layout.apart(0, 1, 3);
        layout.run(1000);
        Check.due("one comes true", layout.worth(), 98);
        refusesPairs(layout, "wish", layout::wish);
        Check.refused(layout, "wish -1", ARGUMENT, () -> layout.wish(0, 1, -1));
        Check.refused(layout, "wish 100", ARGUMENT, () -> layout.wish(0, 1, 100));
        Check.due("a wish no more", layout.wish(0, 2, 0), 98);
        layout.run(1000);
        Check.due("the other wish", layout.worth(), 1);
        Check.due("no wish", layout.wish(0, 1, 0), 0);
        Check.due("that forgets as well", layout.nodes(), 0);
    }

    private static void promise7Place() {
        CaseLayout layout = found(3, 2);
        layout.wall(2, 1, true);
        layout.run(100);
        int nodes = layout.nodes();
        refusesCells(layout, "place", 3, 2, layout::place);
        Check.refused(layout, "a place on a wall", ARGUMENT, () -> layout.place(2, 1));
        for (int number = 0; number < 8; number++) {
            Check.due("place", layout.place(number % 2, 0), number);
            Check.due("places", layout.count(1), number + 1);
        }
        Check.due("a place forgets nothing", layout.worth(), 0);
        Check.due("nor the nodes", layout.nodes(), nodes);
        Check.due("and sees at once", layout.sight(7, 0), true);
        Check.refused(layout, "a ninth place", STATE, () -> layout.place(0, 0));
        Check.refused(layout, "a ninth place on a wall", STATE, () -> layout.place(2, 1));
        Check.refused(layout, "a ninth place outside", INDEX, () -> layout.place(3, 1));
        Check.due("an exit on a place", layout.exit(0, 0), 1);
    }

    private static void promise8Sees() {
        CaseLayout layout = new CaseLayout(5, 2);
        layout.thing(1, 1, 0);
        layout.place(4, 0);
        layout.wall(2, 0, true);
        layout.run(100);
        Check.due("it need not see at first", layout.sees(0, 0, false), false);
        Check.due("sees forgets even so", layout.worth(), CaseLayout.NONE);
        Check.due("sees", layout.sees(0, 0, true), true);
        Check.due("sees again", layout.sees(0, 0, true), false);
        Check.due("run", layout.run(100), 0);
        Check.due("the first cell seen", layout.at(0, 0), 3);
        Check.refused(layout, "no such place", INDEX, () -> layout.sees(1, 0, true) ? 1 : 0);
        Check.refused(layout, "no such thing", INDEX, () -> layout.sees(0, 1, true) ? 1 : 0);
        Check.refused(layout, "place -1", INDEX, () -> layout.sees(-1, 0, true) ? 1 : 0);
        Check.refused(layout, "thing -1", INDEX, () -> layout.sees(0, -1, true) ? 1 : 0);
        layout.wall(3, 0, true);
        layout.wall(3, 1, true);
        Check.due("only beyond the wall", layout.run(100), 0);
        Check.due("on the place itself", layout.at(0, 0), 4);
        layout.thing(1, 1, 0);
        layout.sees(0, 1, true);
        Check.due("one of the two covers the place", layout.run(100), 2);
        Check.due("sees no more", layout.sees(0, 1, false), true);
        Check.due("sees no more, again", layout.sees(0, 1, false), false);
        Check.due("the other one is seen", layout.run(100), 0);
    }

    private static void promise9Exit() {
        CaseLayout layout = found(4, 2);
        layout.wall(3, 1, true);
        layout.run(100);
        Check.refused(layout, "an exit in a wall", ARGUMENT, () -> layout.exit(3, 1));
        refusesCells(layout, "exit", 4, 2, layout::exit);
        for (int cell = 0; cell < 6; cell++) {
            Check.due("exit", layout.exit(cell % 4, cell / 4), cell + 1);
            Check.due("an exit forgets", layout.worth(), CaseLayout.NONE);
            layout.run(100);
            if (cell == 3) {
                Check.refused(layout, "an exit twice", ARGUMENT, () -> layout.exit(0, 0));
            }
        }
        Check.refused(layout, "a seventh exit", STATE, () -> layout.exit(2, 1));
        Check.refused(layout, "a seventh exit, twice", STATE, () -> layout.exit(0, 0));
        Check.refused(layout, "a seventh exit in a wall", STATE, () -> layout.exit(3, 1));
        Check.refused(layout, "a seventh exit outside", INDEX, () -> layout.exit(4, 1));
        Check.due("exits", layout.count(2), 6);
        Check.due("a place on an exit", layout.place(0, 0), 0);
    }

    private static void promise10Most() {
        CaseLayout layout = new CaseLayout(6, 1);
        layout.thing(1, 1, 0);
        layout.exit(5, 0);
        Check.due("run", layout.run(100), 0);
        Check.due("most", layout.most(3), 99);
        Check.due("most forgets", layout.worth(), CaseLayout.NONE);
        layout.run(100);
        Check.due("three steps from beside", layout.at(0, 0), 1);
        Check.due("most 0", layout.most(0), 3);
        layout.run(100);
        Check.due("beside the exit", layout.at(0, 0), 4);
        Check.refused(layout, "most -1", ARGUMENT, () -> layout.most(-1));
        Check.refused(layout, "most 100", ARGUMENT, () -> layout.most(100));
        Check.due("most 99", layout.most(99), 0);
        layout.run(100);
        Check.due("most as it was", layout.most(99), 99);
        Check.due("that forgets too", layout.worth(), CaseLayout.NONE);
    }

    private static void promise11Run() {
        CaseLayout layout = new CaseLayout(3, 1);
        Check.due("no things", layout.run(0), 0);
        Check.due("no things' worth", layout.worth(), 0);
        layout.thing(1, 1, 0);
        layout.thing(1, 1, 0);
        Check.due("none of nine nodes", layout.run(0), 1);
        Check.due("no layout", layout.worth(), CaseLayout.NONE);
        Check.due("one of nine", layout.run(1), 1);
        Check.due("still none", layout.worth(), CaseLayout.NONE);
        Check.due("two of nine", layout.run(2), 1);
        Check.due("a layout of what was looked at", layout.worth(), 0);
        Check.due("its second thing", layout.at(1, 0), 1);
        Check.due("eight of nine", layout.run(8), 1);
        Check.due("just nine", layout.run(9), 0);
        Check.due("nodes", layout.nodes(), 9);
        Check.due("more than nine", layout.run(20000), 0);
        Check.due("nodes are no more", layout.nodes(), 9);
        Check.refused(layout, "run -1", ARGUMENT, () -> layout.run(-1));
        Check.refused(layout, "run 20001", ARGUMENT, () -> layout.run(20001));
        layout.apart(0, 1, 2);
        Check.due("just three, and none", layout.run(3), 2);
        Check.due("two, and one more to come", layout.run(2), 1);
        layout.thing(4, 1, 0);
        Check.due("one that lies nowhere", layout.run(3), 2);
    }

    /** By rows, each thing in its turn; of layouts worth the same the first one stays. */
    private static void promise11Order() {
        CaseLayout layout = new CaseLayout(3, 2);
        layout.thing(1, 1, 0);
        layout.thing(2, 1, 0);
        layout.run(20000);
        Check.due("first thing x", layout.at(0, 0), 0);
        Check.due("first thing y", layout.at(0, 1), 0);
        Check.due("second thing x", layout.at(1, 0), 1);
        Check.due("second thing y", layout.at(1, 1), 0);
        layout.wall(1, 0, true);
        layout.run(20000);
        Check.due("down a row, x", layout.at(1, 0), 0);
        Check.due("down a row, y", layout.at(1, 1), 1);
        layout.apart(0, 1, 1);
        layout.wish(0, 1, 9);
        Check.due("apart and side by side", layout.run(20000), 2);
        CaseLayout better = new CaseLayout(4, 1);
        better.thing(1, 1, 0);
        better.thing(1, 1, 0);
        better.thing(1, 1, 0);
        better.wish(0, 2, 5);
        better.run(20000);
        Check.due("a better one replaces", better.at(0, 0) * 100 + better.at(1, 0) * 10 + better.at(2, 0), 21);
        better.run(5);
        Check.due("the best of the first five nodes", better.worth(), 0);
    }

    private static void promise12Nodes() {
        CaseLayout layout = new CaseLayout(4, 4);
        Check.due("nodes without a run", layout.nodes(), 0);
        layout.thing(2, 2, 0);
        Check.due("run", layout.run(20000), 0);
        Check.due("nodes of one thing", layout.nodes(), 9);
        layout.run(4);
        Check.due("nodes of the latest run", layout.nodes(), 4);
        Check.due("nodes, asked again", layout.nodes(), 4);
        layout.most(99);
        Check.due("nodes forgotten", layout.nodes(), 0);
        layout.thing(4, 4, 1);
        layout.run(20000);
        Check.due("nodes without a layout", layout.nodes(), 9);
        CaseLayout great = new CaseLayout(9, 9);
        for (int i = 0; i < 7; i++) {
            great.thing(1, 1, 0);
        }
        Check.due("a search too great", great.run(20000), 1);
        Check.due("all nodes spent", great.nodes(), 20000);
    }

    private static void promise13At() {
        CaseLayout layout = new CaseLayout(3, 3);
        layout.thing(1, 1, 1);
        layout.zone(2, 1, 1);
        Check.refused(layout, "at without a run", STATE, () -> layout.at(0, 0));
        Check.refused(layout, "at without a run, wrong thing", INDEX, () -> layout.at(1, 0));
        Check.refused(layout, "at without a run, wrong what", INDEX, () -> layout.at(0, 2));
        layout.run(9);
        Check.due("x", layout.at(0, 0), 2);
        Check.due("y", layout.at(0, 1), 1);
        Check.refused(layout, "thing -1", INDEX, () -> layout.at(-1, 0));
        Check.refused(layout, "thing 1", INDEX, () -> layout.at(1, 0));
        Check.refused(layout, "what -1", INDEX, () -> layout.at(0, -1));
        Check.refused(layout, "what 2", INDEX, () -> layout.at(0, 2));
        layout.run(0);
        Check.refused(layout, "at after a run without a layout", STATE, () -> layout.at(0, 0));
        layout.run(1);
        layout.zone(0, 0, 0);
        Check.refused(layout, "at, forgotten", STATE, () -> layout.at(0, 0));
    }

    private static void promise14Worth() {
        CaseLayout layout = new CaseLayout(9, 9);
        Check.due("worth without a run", layout.worth(), CaseLayout.NONE);
        layout.run(0);
        Check.due("worth of no things", layout.worth(), 0);
        for (int i = 0; i < 3; i++) {
            layout.thing(1, 1, 1);
            layout.zone(i, 0, 1);
        }
        layout.wish(0, 1, 99);
        layout.wish(1, 2, 99);
        layout.wish(0, 2, 99);
        layout.run(100);
        Check.due("two of three in a row", layout.worth(), 198);
        layout.zone(0, 1, 1);
        layout.run(100);
        Check.due("all three round a corner", layout.worth(), 297);
        layout.thing(1, 1, 3);
        layout.run(100);
        Check.due("worth if there is none", layout.worth(), CaseLayout.NONE);
    }

    private static void promise15Sight() {
        CaseLayout layout = new CaseLayout(5, 3);
        layout.thing(1, 1, 1);
        layout.zone(4, 1, 1);
        layout.place(0, 1);
        layout.place(0, 0);
        Check.refused(layout, "sight without a run", STATE, () -> layout.sight(0, 0) ? 1 : 0);
        Check.refused(layout, "no such place, first of all", INDEX, () -> layout.sight(2, 0) ? 1 : 0);
        layout.run(9);
        Check.due("along a row", layout.sight(0, 0), true);
        Check.due("aslant", layout.sight(1, 0), true);
        Check.refused(layout, "place -1", INDEX, () -> layout.sight(-1, 0) ? 1 : 0);
        Check.refused(layout, "place 2", INDEX, () -> layout.sight(2, 0) ? 1 : 0);
        Check.refused(layout, "thing -1", INDEX, () -> layout.sight(0, -1) ? 1 : 0);
        Check.refused(layout, "thing 1", INDEX, () -> layout.sight(0, 1) ? 1 : 0);
        layout.wall(1, 0, true);
        Check.refused(layout, "sight, forgotten", STATE, () -> layout.sight(0, 0) ? 1 : 0);
        layout.run(9);
        Check.due("past a wall's edge", layout.sight(0, 0), true);
        Check.due("through a wall", layout.sight(1, 0), false);
        layout.thing(2, 1, 2);
        layout.zone(2, 1, 2);
        layout.zone(3, 1, 2);
        layout.run(9);
        Check.due("through another thing", layout.sight(0, 0), false);
        Check.due("that thing itself", layout.sight(0, 1), true);
        layout.place(4, 1);
        Check.due("through its own cells", layout.sight(2, 0), true);
        Check.due("out of another thing's cell", layout.sight(2, 1), false);
        layout.wall(4, 0, true);
        layout.run(9);
        layout.place(3, 1);
        Check.due("from its own second cell", layout.sight(3, 1), true);
    }

    private static void promise15SightPastCorners() {
        CaseLayout layout = new CaseLayout(4, 4);
        layout.thing(1, 1, 1);
        layout.zone(2, 2, 1);
        layout.place(0, 0);
        layout.wall(1, 0, true);
        layout.wall(0, 1, true);
        layout.wall(2, 1, true);
        layout.wall(1, 2, true);
        layout.run(9);
        Check.due("between corners that meet", layout.sight(0, 0), true);
        layout.wall(1, 1, true);
        layout.run(9);
        Check.due("through the cell between", layout.sight(0, 0), false);
        // Each row: which cells of it hide the thing, if they are walls. The line to 3, 1 changes its
        // row on the edge of two columns, that to 2, 1 in the midst of one.
        seenThrough(3, 1, ".#..", "..#.");
        seenThrough(2, 1, ".#.", ".#.");
        seenThrough(1, 3, "..", "#.", ".#", "..");
        seenThrough(4, 0, ".###.");
    }

    private static void seenThrough(int toX, int toY, String... rows) {
        for (int y = 0; y <= toY; y++) {
            for (int x = 0; x <= toX; x++) {
                if (x + y > 0 && (x != toX || y != toY)) {
                    CaseLayout layout = new CaseLayout(toX + 1, toY + 1);
                    layout.thing(1, 1, 1);
                    layout.zone(toX, toY, 1);
                    layout.place(0, 0);
                    layout.wall(x, y, true);
                    layout.run(9);
                    Check.due("to " + toX + ", " + toY + " with a wall at " + x + ", " + y,
                            layout.sight(0, 0), rows[y].charAt(x) == '.');
                }
            }
        }
    }

    private static void promise15SightOfCoveredPlace() {
        CaseLayout layout = new CaseLayout(3, 1);
        layout.thing(1, 1, 0);
        layout.thing(2, 1, 0);
        layout.place(0, 0);
        layout.run(9);
        Check.due("a place under the thing's first cell", layout.sight(0, 0), true);
        Check.due("a place under another thing", layout.sight(0, 1), false);
        layout.sees(0, 1, true);
        Check.due("the place is left to the second", layout.run(9), 0);
        Check.due("it lies there", layout.at(1, 0), 0);
    }

    private static void promise16Escape() {
        CaseLayout layout = new CaseLayout(4, 3);
        layout.thing(1, 2, 1);
        layout.zone(2, 0, 1);
        layout.zone(2, 1, 1);
        layout.exit(3, 0);
        layout.wall(0, 1, true);
        Check.refused(layout, "escape without a run", STATE, () -> layout.escape(0, 0));
        Check.refused(layout, "escape outside without a run", INDEX, () -> layout.escape(4, 0));
        layout.run(9);
        int[][] due = {{7, 6, -1, 0}, {-1, 5, -1, 1}, {5, 4, 3, 2}};
        for (int y = 0; y < 3; y++) {
            for (int x = 0; x < 4; x++) {
                Check.due("escape " + x + " " + y, layout.escape(x, y), due[y][x]);
            }
        }
        refusesCells(layout, "escape", 4, 3, layout::escape);
        layout.most(1);
        layout.run(9);
        Check.due("farther than the most", layout.escape(0, 0), 7);
        layout.wall(2, 2, true);
        Check.refused(layout, "escape, forgotten", STATE, () -> layout.escape(0, 0));
        layout.run(9);
        Check.due("no way", layout.escape(0, 0), CaseLayout.NONE);
        Check.due("a way on the other side", layout.escape(3, 2), 2);
        layout.exit(0, 0);
        layout.run(9);
        Check.due("the nearer exit", layout.escape(1, 1), 2);
    }

    private static void promise16Exits() {
        CaseLayout layout = new CaseLayout(3, 1);
        layout.run(0);
        Check.due("no exits, no way", layout.escape(1, 0), CaseLayout.NONE);
        layout.thing(3, 1, 0);
        Check.due("no exits, no escapes needed", layout.run(9), 0);
        layout.exit(0, 0);
        Check.due("a thing on the one exit", layout.run(9), 2);
        CaseLayout two = new CaseLayout(4, 1);
        two.thing(1, 1, 0);
        two.exit(0, 0);
        two.exit(3, 0);
        two.run(9);
        Check.due("on an exit, as another is free", two.at(0, 0), 0);
        Check.due("the covered exit", two.escape(0, 0), CaseLayout.NONE);
        Check.due("the way to the free one", two.escape(1, 0), 2);
        two.most(1);
        two.run(9);
        Check.due("too far for the first cell", two.at(0, 0), 1);
        CaseLayout aslant = new CaseLayout(2, 2);
        aslant.thing(1, 1, 1);
        aslant.zone(0, 0, 1);
        aslant.exit(1, 1);
        aslant.wall(1, 0, true);
        aslant.wall(0, 1, true);
        Check.due("a corner is not beside", aslant.run(9), 2);
        aslant.wall(0, 1, false);
        aslant.most(1);
        Check.due("below is", aslant.run(9), 0);
        aslant.most(0);
        Check.due("but a step too far", aslant.run(9), 2);
    }

    /** A thing of two by two in the midst, with the one exit at each other cell in turn. */
    private static void promise16Beside() {
        String[] rows = {".##.", "#  #", "#  #", ".##."};
        for (int y = 0; y < 4; y++) {
            for (int x = 0; x < 4; x++) {
                if (rows[y].charAt(x) != ' ') {
                    CaseLayout layout = new CaseLayout(4, 4);
                    layout.thing(2, 2, 1);
                    for (int cell = 0; cell < 4; cell++) {
                        layout.zone(1 + cell % 2, 1 + cell / 2, 1);
                    }
                    layout.exit(x, y);
                    layout.most(0);
                    Check.due("an exit at " + x + ", " + y, layout.run(9), rows[y].charAt(x) == '#' ? 0 : 2);
                }
            }
        }
    }

    /** Later tries are worth more, but cover the exit: they must not shine through. */
    private static void promises15And16OfTheBest() {
        CaseLayout layout = new CaseLayout(3, 1);
        layout.thing(1, 1, 0);
        layout.thing(1, 1, 0);
        layout.wish(0, 1, 5);
        layout.exit(1, 0);
        layout.place(1, 0);
        Check.due("run", layout.run(9), 0);
        Check.due("worth", layout.worth(), 0);
        Check.due("sight in the best", layout.sight(0, 0), true);
        Check.due("sight in the best of the second", layout.sight(0, 1), true);
        layout.run(9);
        Check.due("escape in the best", layout.escape(1, 0), 0);
        Check.due("escape under a thing of the best", layout.escape(0, 0), CaseLayout.NONE);
    }

    private static void promise17Count() {
        CaseLayout layout = new CaseLayout(9, 9);
        layout.thing(1, 1, 0);
        layout.place(0, 0);
        layout.place(0, 0);
        layout.exit(1, 0);
        layout.exit(2, 0);
        layout.exit(3, 0);
        for (int x = 0; x < 9; x++) {
            layout.wall(x, 8, true);
        }
        layout.wall(0, 8, false);
        layout.run(10);
        Check.due("things", layout.count(0), 1);
        Check.due("places", layout.count(1), 2);
        Check.due("exits", layout.count(2), 3);
        Check.due("walls", layout.count(3), 8);
        for (int what : new int[] {-1, 4, Integer.MIN_VALUE, Integer.MAX_VALUE}) {
            Check.refused(layout, "count " + what, INDEX, () -> layout.count(what));
        }
    }

    private interface CellCall {
        long answer(int x, int y);
    }

    private interface PairCall {
        long answer(int a, int b, int value);
    }

    private static CaseLayout found(int width, int height) {
        CaseLayout layout = new CaseLayout(width, height);
        layout.thing(1, 1, 0);
        layout.run(100);
        return layout;
    }

    private static void refusesCells(CaseLayout layout, String name, int width, int height, CellCall call) {
        int[][] cells = {{-1, 0}, {0, -1}, {width, 0}, {0, height}, {Integer.MIN_VALUE, 0}, {0, Integer.MAX_VALUE}};
        for (int[] cell : cells) {
            Check.refused(layout, name + " at " + cell[0] + ", " + cell[1], INDEX,
                    () -> call.answer(cell[0], cell[1]));
        }
    }

    private static void refusesPairs(CaseLayout layout, String name, PairCall call) {
        int size = layout.count(0);
        int[][] pairs = {{-1, 0}, {0, -1}, {size, 0}, {0, size}, {size, size}, {Integer.MAX_VALUE, 0}};
        for (int[] pair : pairs) {
            Check.refused(layout, name + " of " + pair[0] + ", " + pair[1], INDEX,
                    () -> call.answer(pair[0], pair[1], 1));
            Check.refused(layout, name + " of " + pair[0] + ", " + pair[1] + " and a wrong value", INDEX,
                    () -> call.answer(pair[0], pair[1], -1));
        }
        Check.refused(layout, name + " of one with itself", ARGUMENT, () -> call.answer(1, 1, 1));
    }
}
