/**
 * The bounds that the document names under 'What it is' and 'Terms', in its order: each is tried at
 * the bound, just inside and just beyond it.
 */
public final class BoundaryTest {
    private static final String INDEX = "IndexOutOfBoundsException";
    private static final String ARGUMENT = "IllegalArgumentException";
    private static final int LOW = Integer.MIN_VALUE;
    private static final int HIGH = Integer.MAX_VALUE;

    public static void main(String[] args) {
        last512thCall();
        gridSides();
        cellClasses();
        thingSizesAndClasses();
        thingLiesInTheGrid();
        thingLiesOnFreeCellsOfItsClass();
        gapOfAllNeighbours();
        apartSteps();
        apartByTheGap();
        sightOfAllCells();
        sightPastAThing();
        mostSteps();
        mostByTheWay();
        longestWay();
        wishWorth();
        wishesOfManyPairs();
        searchOrder();
        firstOfTheGreatestWorth();
        nodesOfARun();
        nodesOfTheGreatestRun();
        Check.end();
    }

    /** Whatever the 511 calls before were, the 512th answers as told. */
    private static void last512thCall() {
        CaseLayout walls = new CaseLayout(9, 9);
        for (int call = 1; call < 512; call++) {
            Check.due("wall, call " + call, walls.wall(4, 4, call % 2 == 1), true);
        }
        Check.due("wall, call 512", walls.wall(4, 4, false), true);
        CaseLayout runs = new CaseLayout(9, 9);
        for (int call = 1; call <= 7; call++) {
            runs.thing(1, 1, 0);
        }
        for (int call = 8; call < 512; call++) {
            Check.due("run, call " + call, runs.run(call), 1);
        }
        Check.due("run, call 512", runs.run(20000), 1);
        CaseLayout refused = new CaseLayout(1, 1);
        for (int call = 1; call < 512; call++) {
            Check.due("refused call " + call, Check.answer(() -> refused.zone(1, 0, 0)), INDEX);
        }
        Check.due("call 512", refused.zone(0, 0, 3), 0);
    }

    private static void gridSides() {
        int[][] sides = {{LOW, 1}, {-1, 1}, {0, 1}, {1, 1}, {2, 2}, {3, 3}, {7, 7}, {8, 8}, {9, 9}, {10, 9},
            {11, 9}, {HIGH, 9}};
        for (int[] wide : sides) {
            for (int[] high : sides) {
                String name = "a grid of " + wide[0] + " by " + high[0] + ", ";
                CaseLayout layout = new CaseLayout(wide[0], high[0]);
                cellsEnd(name, layout, wide[1], high[1]);
                layout.thing(1, 1, 0);
                // In a grid of one cell, the exit, a thing has no cell beside it.
                Check.due(name + "run", layout.run(81), wide[1] * high[1] == 1 ? 2 : 0);
                Check.due(name + "cells", layout.nodes(), wide[1] * high[1]);
            }
        }
    }

    private static void cellsEnd(String name, CaseLayout layout, int w, int h) {
        layout.run(0);
        Check.due(name + "first zone", layout.zone(0, 0, 1), 0);
        Check.due(name + "last zone", layout.zone(w - 1, h - 1, 0), w * h == 1 ? 1 : 0);
        Check.due(name + "last wall", layout.wall(w - 1, h - 1, true), true);
        Check.due(name + "last wall off", layout.wall(w - 1, h - 1, false), true);
        Check.due(name + "last exit", layout.exit(w - 1, h - 1), 1);
        Check.due(name + "last place", layout.place(w - 1, h - 1), 0);
        layout.run(0);
        Check.due(name + "last escape", layout.escape(w - 1, h - 1), 0);
        Check.due(name + "first escape", layout.escape(0, 0), w - 1 + h - 1);
        int[][] beyond = {{w, h - 1}, {w - 1, h}, {w, h}, {-1, 0}, {0, -1}};
        for (int[] n : beyond) {
            Check.due(name + "zone", Check.answer(() -> layout.zone(n[0], n[1], 0)), INDEX);
            Check.due(name + "wall", Check.answer(() -> layout.wall(n[0], n[1], true) ? 1 : 0), INDEX);
            Check.due(name + "exit", Check.answer(() -> layout.exit(n[0], n[1])), INDEX);
            Check.due(name + "place", Check.answer(() -> layout.place(n[0], n[1])), INDEX);
            Check.due(name + "escape", Check.answer(() -> layout.escape(n[0], n[1])), INDEX);
        }
    }

    private static void cellClasses() {
        CaseLayout layout = new CaseLayout(2, 1);
        int before = 0;
        for (int c : new int[] {0, 1, 2, 3, 2, 1, 0, 3}) {
            Check.due("zone of class -1", Check.answer(() -> layout.zone(1, 0, -1)), ARGUMENT);
            Check.due("zone of class 4", Check.answer(() -> layout.zone(1, 0, 4)), ARGUMENT);
            Check.due("zone of class " + c, layout.zone(1, 0, c), before);
            before = c;
        }
        Check.due("the cell beside", layout.zone(0, 0, 0), 0);
    }

    private static void thingSizesAndClasses() {
        for (int w = 0; w <= 5; w++) {
            for (int h = 0; h <= 5; h++) {
                for (int c = -1; c <= 4; c++) {
                    int[] n = {w, h, c};
                    boolean right = w >= 1 && w <= 4 && h >= 1 && h <= 4 && c >= 0 && c <= 3;
                    CaseLayout layout = new CaseLayout(4, 4);
                    String name = "thing " + w + " " + h + " " + c;
                    Check.due(name, Check.answer(() -> layout.thing(n[0], n[1], n[2])), right ? "0" : ARGUMENT);
                    Check.due(name + ", things", layout.count(0), right ? 1 : 0);
                    Check.due(name + ", run", layout.run(16), right && c > 0 ? 2 : 0);
                    Check.due(name + ", nodes", layout.nodes(), right && c == 0 ? (5 - w) * (5 - h) : 0);
                }
            }
        }
    }

    /** Too great by one, just as great, and greater by one than the thing; never turned. */
    private static void thingLiesInTheGrid() {
        for (int w = 1; w <= 4; w++) {
            for (int h = 1; h <= 4; h++) {
                for (int width = Math.max(1, w - 1); width <= w + 1; width++) {
                    for (int height = Math.max(1, h - 1); height <= h + 1; height++) {
                        CaseLayout layout = new CaseLayout(width, height);
                        layout.thing(w, h, 0);
                        int tries = Math.max(0, width - w + 1) * Math.max(0, height - h + 1);
                        String name = w + " by " + h + " in " + width + " by " + height;
                        Check.due(name, layout.run(99), tries > 0 ? 0 : 2);
                        Check.due(name + ", nodes", layout.nodes(), tries);
                    }
                }
            }
        }
    }

    /** A thing of two by two that may lie at 1, 1 alone, with each cell of the grid spoilt in turn. */
    private static void thingLiesOnFreeCellsOfItsClass() {
        for (int x = 0; x < 4; x++) {
            for (int y = 0; y < 4; y++) {
                boolean own = x >= 1 && x <= 2 && y >= 1 && y <= 2;
                String name = " at " + x + " " + y;
                CaseLayout layout = inTheMidst(1);
                layout.wall(x, y, true);
                Check.due("a wall" + name, layout.run(9), own ? 2 : 0);
                for (int c = 0; c <= 3; c++) {
                    layout = inTheMidst(1);
                    layout.zone(x, y, c);
                    Check.due("class " + c + name, layout.run(9), own && c != 1 ? 2 : 0);
                }
                layout = new CaseLayout(4, 4);
                layout.thing(1, 1, 2);
                layout.zone(x, y, 2);
                layout.thing(2, 2, 0);
                layout.run(99);
                Check.due("nodes with another thing" + name, layout.nodes(), 1 + 9 - covers(x) * covers(y));
            }
        }
        for (int c = 0; c <= 3; c++) {
            Check.due("class 0 on class " + c, inTheMidst(c).run(9), c == 1 ? 0 : 2);
        }
    }

    /** Of two by two in four by four: how many columns (or rows) it can lie at so as to cover this one. */
    private static int covers(int line) {
        return line == 0 || line == 3 ? 1 : 2;
    }

    private static CaseLayout inTheMidst(int c) {
        CaseLayout layout = new CaseLayout(4, 4);
        layout.thing(2, 2, 1);
        for (int cell = 0; cell < 4; cell++) {
            layout.zone(1 + cell % 2, 1 + cell / 2, c);
        }
        return layout;
    }

    /** One thing of three by two at 3, 3; another of one by two at each cell where it can lie. */
    private static void gapOfAllNeighbours() {
        for (int x = 0; x < 9; x++) {
            for (int y = 0; y < 8; y++) {
                int columns = between(3, 3, x, 1);
                int rows = between(3, 2, y, 2);
                if (!(common(3, 3, x, 1) && common(3, 2, y, 2))) {
                    gapIs("at " + x + " " + y, x, y, Math.max(columns, rows));
                }
            }
        }
    }

    private static void gapIs(String name, int x, int y, int gap) {
        CaseLayout layout = new CaseLayout(9, 9);
        layout.thing(3, 2, 1);
        layout.thing(1, 2, 2);
        for (int cell = 0; cell < 6; cell++) {
            layout.zone(3 + cell % 3, 3 + cell / 3, 1);
        }
        layout.zone(x, y, 2);
        layout.zone(x, y + 1, 2);
        layout.wish(0, 1, 42);
        Check.due(name, layout.run(9), 0);
        Check.due(name + ", worth", layout.worth(), gap == 0 ? 42 : 0);
        for (int steps = 0; steps <= 5; steps++) {
            layout.apart(1, 0, steps);
            Check.due(name + ", apart by " + steps, layout.run(9), gap >= steps ? 0 : 2);
            Check.due(name + ", nodes", layout.nodes(), gap >= steps ? 2 : 1);
        }
    }

    private static int between(int from, int length, int otherFrom, int otherLength) {
        int count = 0;
        for (int line = 0; line < 9; line++) {
            boolean after = line >= from + length && line < otherFrom;
            boolean before = line >= otherFrom + otherLength && line < from;
            count += after || before ? 1 : 0;
        }
        return count;
    }

    private static boolean common(int from, int length, int otherFrom, int otherLength) {
        return from < otherFrom + otherLength && otherFrom < from + length;
    }

    private static void apartSteps() {
        CaseLayout layout = new CaseLayout(3, 3);
        layout.thing(1, 1, 0);
        layout.thing(1, 1, 0);
        layout.thing(1, 1, 0);
        int before = 0;
        for (int steps = -2; steps <= 7; steps++) {
            int n = steps;
            boolean right = steps >= 0 && steps <= 5;
            Check.due("apart by " + n, Check.answer(() -> layout.apart(0, 1, n)), right ? "" + before : ARGUMENT);
            before = right ? steps : before;
            Check.due("apart by " + n + ", other pairs", layout.apart(0, 2, 0) + layout.apart(2, 1, 0), 0);
        }
        Check.due("apart, turned round", layout.apart(1, 0, 1), 5);
        Check.due("apart by one", layout.apart(0, 1, 0), 1);
        Check.due("apart by none any more", layout.apart(0, 1, 0), 0);
        layout.run(20000);
        Check.due("none has to be apart", layout.nodes(), 9 + 9 * 8 + 9 * 8 * 7);
    }

    /** In a row that is too short by one, just long enough, and longer by one. */
    private static void apartByTheGap() {
        for (int steps = 1; steps <= 5; steps++) {
            for (int length = steps + 1; length <= steps + 3; length++) {
                for (int turned = 0; turned < 2; turned++) {
                    CaseLayout layout = new CaseLayout(turned == 0 ? length : 1, turned == 0 ? 1 : length);
                    layout.thing(1, 1, 0);
                    layout.thing(1, 1, 0);
                    layout.apart(0, 1, steps);
                    int pairs = length - 1 - steps;
                    String name = steps + " steps in " + length + " cells";
                    Check.due(name, layout.run(99), pairs > 0 ? 0 : 2);
                    Check.due(name + ", nodes", layout.nodes(), length + pairs * (pairs + 1));
                }
            }
        }
    }

    /** From each cell to each other one, with one wall at each cell between: 9 by 5 cells. */
    private static void sightOfAllCells() {
        for (int from = 0; from < 45; from++) {
            for (int to = 0; to < 45; to++) {
                CaseLayout layout = new CaseLayout(9, 5);
                layout.thing(1, 1, 1);
                layout.zone(to % 9, to / 9, 1);
                layout.place(from % 9, from / 9);
                for (int cell = 0; cell < 45; cell++) {
                    if (cell != from && cell != to) {
                        layout.wall(cell % 9, cell / 9, true);
                        layout.run(1);
                        Check.due("from " + from + " to " + to + " past " + cell, layout.sight(0, 0),
                                !goesThrough(from, to, cell));
                        layout.wall(cell % 9, cell / 9, false);
                    }
                }
            }
        }
    }

    /** A line goes through a cell's inside if corners lie on both sides of it, and the cell between its ends. */
    private static boolean goesThrough(int from, int to, int cell) {
        int fromX = from % 9 * 2 + 1;
        int fromY = from / 9 * 2 + 1;
        int dx = to % 9 * 2 + 1 - fromX;
        int dy = to / 9 * 2 + 1 - fromY;
        boolean left = false;
        boolean right = false;
        for (int corner = 0; corner < 4; corner++) {
            int side = dx * ((cell / 9 + corner / 2) * 2 - fromY) - dy * ((cell % 9 + corner % 2) * 2 - fromX);
            left |= side < 0;
            right |= side > 0;
        }
        return left && right && inOrder(from % 9, cell % 9, to % 9) && inOrder(from / 9, cell / 9, to / 9);
    }

    private static boolean inOrder(int one, int middle, int other) {
        return Math.min(one, other) <= middle && middle <= Math.max(one, other);
    }

    /** A line that meets a thing's corner alone, its inside, or its own cells; from before and from behind. */
    private static void sightPastAThing() {
        CaseLayout layout = new CaseLayout(6, 3);
        layout.thing(1, 1, 1);
        layout.thing(2, 2, 2);
        layout.zone(0, 2, 1);
        for (int cell = 0; cell < 4; cell++) {
            layout.zone(1 + cell % 2, cell / 2, 2);
        }
        layout.place(3, 2);
        layout.place(0, 0);
        layout.place(3, 0);
        layout.place(4, 2);
        layout.place(1, 2);
        layout.place(2, 1);
        layout.place(0, 1);
        layout.place(5, 0);
        Check.due("run", layout.run(9), 0);
        // The second thing lies at 1, 0 to 2, 1; the first at 0, 2.
        boolean[] first = {true, true, false, true, true, false, true, false};
        for (int place = 0; place < 8; place++) {
            Check.due("the first thing from place " + place, layout.sight(place, 0), first[place]);
            Check.due("the second, over its own cells, from place " + place, layout.sight(place, 1), true);
        }
        CaseLayout corner = new CaseLayout(3, 3);
        corner.thing(1, 1, 1);
        corner.thing(1, 1, 2);
        corner.zone(2, 0, 1);
        corner.zone(1, 0, 2);
        corner.place(0, 2);
        corner.place(0, 1);
        corner.place(0, 0);
        corner.run(9);
        Check.due("past the corner", corner.sight(0, 0), true);
        Check.due("through a part of it", corner.sight(1, 0), false);
        Check.due("through its midst", corner.sight(2, 0), false);
    }

    private static void mostSteps() {
        CaseLayout layout = new CaseLayout(1, 1);
        int before = 99;
        for (int steps : new int[] {-1, 0, 1, -1, 50, 100, 98, 99, 100, 0}) {
            boolean right = steps >= 0 && steps <= 99;
            Check.due("most " + steps, Check.answer(() -> layout.most(steps)), right ? "" + before : ARGUMENT);
            before = right ? steps : before;
        }
        Check.due("at last", layout.most(99), 0);
    }

    /** A thing at the end of a row of free cells with the exit at its other end. */
    private static void mostByTheWay() {
        for (int length = 2; length <= 9; length++) {
            CaseLayout layout = new CaseLayout(length, 1);
            layout.thing(1, 1, 1);
            layout.zone(0, 0, 1);
            layout.exit(length - 1, 0);
            int way = length - 2;
            for (int steps = Math.max(0, way - 1); steps <= way + 1; steps++) {
                layout.most(steps);
                String name = "a way of " + way + ", at most " + steps;
                Check.due(name, layout.run(1), way <= steps ? 0 : 2);
                Check.due(name + ", nodes", layout.nodes(), 1);
            }
            Check.due("the way of " + way, layout.escape(1, 0), way);
        }
    }

    /** Nine rows, every second of them a wall with one opening, left and right in turn. */
    private static void longestWay() {
        CaseLayout layout = new CaseLayout(9, 9);
        for (int y = 1; y < 9; y += 2) {
            for (int x = 0; x < 9; x++) {
                if (x != (y % 4 == 1 ? 8 : 0)) {
                    layout.wall(x, y, true);
                }
            }
        }
        layout.thing(1, 1, 1);
        layout.zone(0, 0, 1);
        layout.exit(8, 8);
        Check.due("the most at first", layout.run(1), 0);
        Check.due("beside the thing", layout.escape(1, 0), 47);
        Check.due("under the thing", layout.escape(0, 0), CaseLayout.NONE);
        Check.due("in a wall", layout.escape(0, 1), CaseLayout.NONE);
        layout.most(48);
        Check.due("one more than the way", layout.run(1), 0);
        layout.most(47);
        Check.due("just the way", layout.run(1), 0);
        layout.most(46);
        Check.due("one less than the way", layout.run(1), 2);
        layout.most(99);
        layout.wall(4, 4, true);
        Check.due("no way, whatever the most", layout.run(1), 2);
    }

    private static void wishWorth() {
        CaseLayout layout = new CaseLayout(2, 1);
        layout.thing(1, 1, 0);
        layout.thing(1, 1, 0);
        int before = 0;
        for (int worth : new int[] {-1, 0, 1, 2, -1, 98, 99, 100, 101, 0, 99}) {
            boolean right = worth >= 0 && worth <= 99;
            Check.due("wish " + worth, Check.answer(() -> layout.wish(0, 1, worth)), right ? "" + before : ARGUMENT);
            before = right ? worth : before;
            layout.run(4);
            Check.due("wish " + worth + " comes true", layout.worth(), before);
        }
    }

    /** Seven things, each pair of them wished: those that meet count, be it at a corner. */
    private static void wishesOfManyPairs() {
        CaseLayout row = sevenWished(9, 99);
        Check.due("the first layout, all in the first row", row.run(7), 1);
        Check.due("six pairs of neighbours", row.worth(), 6 * 99);
        CaseLayout block = sevenWished(4, 99);
        Check.due("the first layout, four above three", block.run(7), 1);
        // 3 in the first row, 2 in the second, 3 below one another, 5 at a corner.
        Check.due("pairs that meet", block.worth(), 13 * 99);
        Check.due("the last one's x", block.at(6, 0), 2);
        Check.due("the last one's y", block.at(6, 1), 1);
    }

    private static CaseLayout sevenWished(int width, int worth) {
        CaseLayout layout = new CaseLayout(width, 2);
        for (int number = 0; number < 7; number++) {
            layout.thing(1, 1, 0);
            for (int other = 0; other < number; other++) {
                layout.wish(number, other, worth);
            }
        }
        return layout;
    }

    /** The first cell by rows that is left is the one that one node meets. */
    private static void searchOrder() {
        CaseLayout layout = new CaseLayout(3, 2);
        layout.thing(1, 1, 0);
        for (int cell = 0; cell < 6; cell++) {
            Check.due("one node", layout.run(1), cell < 5 ? 1 : 0);
            Check.due("x", layout.at(0, 0), cell % 3);
            Check.due("y", layout.at(0, 1), cell / 3);
            layout.wall(cell % 3, cell / 3, true);
        }
        Check.due("no cell is left", layout.run(1), 2);
        CaseLayout two = new CaseLayout(3, 2);
        two.thing(1, 1, 0);
        two.thing(1, 1, 1);
        two.zone(2, 0, 1);
        two.zone(0, 1, 1);
        two.wish(0, 1, 1);
        // The first at 0, 0: then the second at 2, 0 is the second node, and at 0, 1 the third.
        two.run(2);
        Check.due("the second's first cell", two.at(1, 0), 2);
        Check.due("apart", two.worth(), 0);
        two.run(3);
        Check.due("the second's second cell", two.at(1, 1), 1);
        Check.due("side by side", two.worth(), 1);
        Check.due("the first has not moved", two.at(0, 0), 0);
    }

    /** The second thing lies at 4, 0, the third at 1, 0: the first may meet the one or the other. */
    private static void firstOfTheGreatestWorth() {
        CaseLayout layout = new CaseLayout(5, 1);
        layout.thing(1, 1, 0);
        layout.thing(1, 1, 1);
        layout.zone(4, 0, 1);
        layout.thing(1, 1, 2);
        layout.zone(1, 0, 2);
        int[][] due = {{0, 0, 0, 0}, {1, 0, 3, 1}, {1, 1, 0, 1}, {2, 1, 3, 2}, {2, 2, 0, 2}, {98, 99, 0, 99},
            {99, 98, 3, 99}, {99, 99, 0, 99}};
        for (int[] n : due) {
            layout.wish(0, 1, n[0]);
            layout.wish(0, 2, n[1]);
            Check.due("run", layout.run(99), 0);
            Check.due("x of the first with wishes " + n[0] + " and " + n[1], layout.at(0, 0), n[2]);
            Check.due("worth of the best with wishes " + n[0] + " and " + n[1], layout.worth(), n[3]);
        }
    }

    private static void nodesOfARun() {
        for (int nodes : new int[] {LOW, -2, -1, 20001, 20002, HIGH}) {
            CaseLayout none = new CaseLayout(3, 1);
            Check.due("run " + nodes, Check.answer(() -> none.run(nodes)), ARGUMENT);
            Check.due("it has not run", none.worth(), CaseLayout.NONE);
        }
        CaseLayout layout = new CaseLayout(3, 1);
        layout.thing(1, 1, 0);
        layout.thing(1, 1, 0);
        int[][] due = {{0, 1, 0, -1}, {1, 1, 1, -1}, {2, 1, 2, 0}, {8, 1, 8, 0}, {9, 0, 9, 0}, {10, 0, 9, 0},
            {19999, 0, 9, 0}, {20000, 0, 9, 0}};
        for (int[] n : due) {
            Check.due("run " + n[0], layout.run(n[0]), n[1]);
            Check.due("nodes of run " + n[0], layout.nodes(), n[2]);
            Check.due("worth of run " + n[0], layout.worth(), n[3]);
        }
        layout.thing(1, 1, 3);
        int[][] none = {{0, 1, 0}, {8, 1, 8}, {9, 2, 9}, {10, 2, 9}, {20000, 2, 9}};
        for (int[] n : none) {
            Check.due("no layout, run " + n[0], layout.run(n[0]), n[1]);
            Check.due("no layout, nodes of run " + n[0], layout.nodes(), n[2]);
            Check.due("no layout, worth of run " + n[0], layout.worth(), CaseLayout.NONE);
        }
        layout.wall(0, 0, true);
        layout.wall(1, 0, true);
        layout.wall(2, 0, true);
        Check.due("no node at all, run 0", layout.run(0), 2);
        Check.due("its nodes", layout.nodes(), 0);
    }

    /** Searches of just 20000 and of 20001 nodes. */
    private static void nodesOfTheGreatestRun() {
        // 32 + 32 * 24 + 32 * 24 * 25 tries.
        CaseLayout just = zones(32, 24, 25, 1, 2, 3);
        Check.due("19999 of 20000", just.run(19999), 1);
        Check.due("its nodes", just.nodes(), 19999);
        Check.due("20000 of 20000", just.run(20000), 0);
        Check.due("its nodes", just.nodes(), 20000);
        // 3 + 3 * 33 + 3 * 33 * 3 + 3 * 33 * 3 * 2 + 3 * 33 * 3 * 2 * 32 tries.
        CaseLayout over = zones(3, 33, 3, 1, 2, 3, 1, 2);
        Check.due("20000 of 20001", over.run(20000), 1);
        Check.due("its nodes", over.nodes(), 20000);
        Check.due("its worth", over.worth(), 0);
        over.wall(8, 8, true);
        Check.due("a wall aside changes nothing", over.run(20000), 1);
        over.zone(0, 0, 0);
        Check.due("one cell less", over.run(20000), 0);
    }

    /** So many cells of class 1, then of 2, then of 3; things of one cell of the classes told. */
    private static CaseLayout zones(int one, int two, int three, int... classes) {
        CaseLayout layout = new CaseLayout(9, 9);
        for (int cell = 0; cell < one + two + three; cell++) {
            layout.zone(cell % 9, cell / 9, cell < one ? 1 : cell < one + two ? 2 : 3);
        }
        for (int c : classes) {
            layout.thing(1, 1, c);
        }
        return layout;
    }
}
