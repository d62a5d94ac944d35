import java.util.Arrays;

/** A show laid out on a grid: the best layout by a search in a told order, its nodes counted. */
public final class CaseLayout {
    public static final int NONE = -1;

    private static final int MOST_SIDE = 9;
    private static final int MOST_CELLS = MOST_SIDE * MOST_SIDE;
    private static final int MOST_CLASS = 3;
    private static final int MOST_THINGS = 7;
    private static final int MOST_SIZE = 4;
    private static final int MOST_APART = 5;
    private static final int MOST_WORTH = 99;
    private static final int MOST_PLACES = 8;
    private static final int MOST_EXITS = 6;
    private static final int MOST_STEPS = 99;
    private static final int MOST_NODES = 20000;

    // What a floor's cell holds, if it is no thing's number.
    private static final int FREE = -1;
    private static final int WALL = -2;

    private final Grid grid;
    private final Things things;
    private final Places places;
    private final Exits exits;
    private final Floor floor;
    private final Search search;

    public CaseLayout(int width, int height) {
        grid = new Grid(within(width, 1, MOST_SIDE), within(height, 1, MOST_SIDE));
        things = new Things();
        places = new Places();
        exits = new Exits();
        floor = new Floor(grid);
        search = new Search(grid, things, places, exits, floor);
    }

    public boolean wall(int x, int y, boolean on) throws IndexOutOfBoundsException {
        needCell(x, y);
        int cell = cellOf(x, y);
        if (grid.walls[cell] == on || places.standOn(cell) || exits.standOn(cell)) {
            return false;
        }
        grid.setWall(cell, on);
        search.forget();
        return true;
    }

    public int zone(int x, int y, int c) throws IndexOutOfBoundsException, IllegalArgumentException {
        needCell(x, y);
        needWithin(c, 0, MOST_CLASS);
        int cell = cellOf(x, y);
        int before = grid.classes[cell];
        grid.classes[cell] = c;
        search.forget();
        return before;
    }

    public int thing(int w, int h, int c) throws IllegalStateException, IllegalArgumentException {
        if (things.size >= MOST_THINGS) {
            throw new IllegalStateException("there are seven things");
        }
        needWithin(w, 1, MOST_SIZE);
        needWithin(h, 1, MOST_SIZE);
        needWithin(c, 0, MOST_CLASS);
        search.forget();
        return things.add(w, h, c);
    }

    public int apart(int a, int b, int steps) throws IndexOutOfBoundsException, IllegalArgumentException {
        needPair(a, b);
        needWithin(steps, 0, MOST_APART);
        search.forget();
        return setBoth(things.gaps, a, b, steps);
    }

    public int wish(int a, int b, int worth) throws IndexOutOfBoundsException, IllegalArgumentException {
        needPair(a, b);
        needWithin(worth, 0, MOST_WORTH);
        search.forget();
        return setBoth(things.wishes, a, b, worth);
    }

    // A place alone changes no rule, so what was found stays.
    public int place(int x, int y) throws IndexOutOfBoundsException, IllegalStateException, IllegalArgumentException {
        needCell(x, y);
        if (places.size >= MOST_PLACES) {
            throw new IllegalStateException("there are eight places");
        }
        if (grid.walls[cellOf(x, y)]) {
            throw new IllegalArgumentException("the cell is a wall");
        }
        return places.add(x, y);
    }

    public boolean sees(int place, int thing, boolean must) throws IndexOutOfBoundsException {
        needPlace(place);
        needThing(thing);
        int entry = sightOf(place, thing);
        boolean changed = places.musts[entry] != must;
        places.musts[entry] = must;
        search.forget();
        return changed;
    }

    public int exit(int x, int y) throws IndexOutOfBoundsException, IllegalStateException, IllegalArgumentException {
        needCell(x, y);
        if (exits.size >= MOST_EXITS) {
            throw new IllegalStateException("there are six exits");
        }
        int cell = cellOf(x, y);
        if (grid.walls[cell] || exits.standOn(cell)) {
            throw new IllegalArgumentException("the cell is a wall or an exit");
        }
        search.forget();
        return exits.add(cell);
    }

    public int most(int steps) throws IllegalArgumentException {
        needWithin(steps, 0, MOST_STEPS);
        int before = exits.furthest;
        exits.furthest = steps;
        search.forget();
        return before;
    }

    public int run(int nodes) throws IllegalArgumentException {
        needWithin(nodes, 0, MOST_NODES);
        search.begin(nodes);
        if (!search.tryThing(0, 0)) {
            return 1;
        }
        return search.hasFound() ? 0 : 2;
    }

    public int nodes() {
        return search.nodeCount;
    }

    public int at(int thing, int what) throws IndexOutOfBoundsException, IllegalStateException {
        needThing(thing);
        if (what != 0 && what != 1) {
            throw new IndexOutOfBoundsException("neither x nor y");
        }
        needFound();
        return what == 0 ? search.best.xs[thing] : search.best.ys[thing];
    }

    public int worth() {
        return search.bestWorth;
    }

    public boolean sight(int place, int thing) throws IndexOutOfBoundsException, IllegalStateException {
        needPlace(place);
        needThing(thing);
        needFound();
        floor.lay(search.best);
        return floor.isSeen(search.best, thing, places.xs[place], places.ys[place]);
    }

    public int escape(int x, int y) throws IndexOutOfBoundsException, IllegalStateException {
        needCell(x, y);
        needFound();
        floor.lay(search.best);
        floor.measure(exits);
        return floor.steps[cellOf(x, y)];
    }

    public int count(int what) throws IndexOutOfBoundsException {
        switch (what) {
            case 0:
                return things.size;
            case 1:
                return places.size;
            case 2:
                return exits.size;
            case 3:
                return grid.wallCount;
            default:
                throw new IndexOutOfBoundsException("nothing of this kind is counted");
        }
    }

    private void needCell(int x, int y) {
        if (!grid.holds(x, y)) {
            throw new IndexOutOfBoundsException("no such cell");
        }
    }

    private void needThing(int number) {
        if (number < 0 || number >= things.size) {
            throw new IndexOutOfBoundsException("no such thing");
        }
    }

    private void needPlace(int number) {
        if (number < 0 || number >= places.size) {
            throw new IndexOutOfBoundsException("no such place");
        }
    }

    private void needPair(int a, int b) {
        needThing(a);
        needThing(b);
        if (a == b) {
            throw new IllegalArgumentException("a thing and itself are no pair");
        }
    }

    private void needFound() {
        if (!search.hasFound()) {
            throw new IllegalStateException("no layout is found");
        }
    }

    private static void needWithin(int value, int least, int greatest) {
        if (value < least || value > greatest) {
            throw new IllegalArgumentException("out of range");
        }
    }

    private static int within(int value, int least, int greatest) {
        return Math.max(least, Math.min(greatest, value));
    }

    // Rows are nine cells long in every grid, so that each index stays below MOST_CELLS.
    private static int cellOf(int x, int y) {
        return y * MOST_SIDE + x;
    }

    private static int pairOf(int a, int b) {
        return a * MOST_THINGS + b;
    }

    private static int sightOf(int place, int thing) {
        return place * MOST_THINGS + thing;
    }

    // A pair has no order, so both of its entries are kept alike.
    private static int setBoth(int[] table, int a, int b, int value) {
        int before = table[pairOf(a, b)];
        table[pairOf(a, b)] = value;
        table[pairOf(b, a)] = value;
        return before;
    }

    /** The cells as they are without things. */
    private static final class Grid {
        private final int width;
        private final int height;
        private final boolean[] walls = new boolean[MOST_CELLS];
        private final int[] classes = new int[MOST_CELLS];
        private int wallCount = 0;

        Grid(int width, int height) {
            this.width = width;
            this.height = height;
        }

        boolean holds(int x, int y) {
            return x >= 0 && x < width && y >= 0 && y < height;
        }

        void setWall(int cell, boolean on) {
            walls[cell] = on;
            wallCount += on ? 1 : -1;
        }

        // Other things are left out here: they change during a search, walls and classes do not.
        boolean carries(int x, int y, int w, int h, int c) {
            if (!holds(x, y) || x + w > width || y + h > height) {
                return false;
            }
            for (int row = y; row < y + h; row++) {
                for (int column = x; column < x + w; column++) {
                    int cell = cellOf(column, row);
                    if (walls[cell] || (c != 0 && classes[cell] != c)) {
                        return false;
                    }
                }
            }
            return true;
        }
    }

    /** The things, and what is told of pairs of them. */
    private static final class Things {
        private final int[] widths = new int[MOST_THINGS];
        private final int[] heights = new int[MOST_THINGS];
        private final int[] classes = new int[MOST_THINGS];
        private final int[] gaps = new int[MOST_THINGS * MOST_THINGS];
        private final int[] wishes = new int[MOST_THINGS * MOST_THINGS];
        private int size = 0;

        int add(int w, int h, int c) {
            int number = size;
            widths[number] = w;
            heights[number] = h;
            classes[number] = c;
            size++;
            return number;
        }
    }

    /** The places, and which things they have to see. */
    private static final class Places {
        private final int[] xs = new int[MOST_PLACES];
        private final int[] ys = new int[MOST_PLACES];
        private final boolean[] musts = new boolean[MOST_PLACES * MOST_THINGS];
        private int size = 0;

        int add(int x, int y) {
            int number = size;
            xs[number] = x;
            ys[number] = y;
            size++;
            return number;
        }

        boolean standOn(int cell) {
            for (int i = 0; i < size; i++) {
                if (cellOf(xs[i], ys[i]) == cell) {
                    return true;
                }
            }
            return false;
        }
    }

    /** The exits, and how far an escape may be. */
    private static final class Exits {
        private final int[] cells = new int[MOST_EXITS];
        private int size = 0;
        private int furthest = MOST_STEPS;

        int add(int cell) {
            cells[size] = cell;
            size++;
            return size;
        }

        boolean standOn(int cell) {
            for (int i = 0; i < size; i++) {
                if (cells[i] == cell) {
                    return true;
                }
            }
            return false;
        }
    }

    /** Where things lie. */
    private static final class Layout {
        private final Things things;
        private final int[] xs = new int[MOST_THINGS];
        private final int[] ys = new int[MOST_THINGS];

        Layout(Things things) {
            this.things = things;
        }

        // The gap of two things; below 0 if they overlap, so that one comparison with the
        // steps they have to be apart (0 if none are told) also tells whether both can lie.
        int gapOf(int a, int b) {
            int columns = between(xs[a], things.widths[a], xs[b], things.widths[b]);
            int rows = between(ys[a], things.heights[a], ys[b], things.heights[b]);
            return Math.max(columns, rows);
        }

        void copyFrom(Layout other) {
            System.arraycopy(other.xs, 0, xs, 0, MOST_THINGS);
            System.arraycopy(other.ys, 0, ys, 0, MOST_THINGS);
        }

        private static int between(int from, int length, int otherFrom, int otherLength) {
            return Math.max(otherFrom - from - length, from - otherFrom - otherLength);
        }
    }

    /** The grid under one layout: whose each cell is, and how far it is to an exit. */
    private static final class Floor {
        private final Grid grid;
        private final int[] owners = new int[MOST_CELLS];
        private final int[] steps = new int[MOST_CELLS];
        private final int[] reached = new int[MOST_CELLS];
        private int reachedCount = 0;

        Floor(Grid grid) {
            this.grid = grid;
        }

        void lay(Layout layout) {
            for (int cell = 0; cell < MOST_CELLS; cell++) {
                owners[cell] = grid.walls[cell] ? WALL : FREE;
            }
            for (int number = 0; number < layout.things.size; number++) {
                cover(layout, number);
            }
        }

        private void cover(Layout layout, int number) {
            int x = layout.xs[number];
            int y = layout.ys[number];
            for (int row = y; row < y + layout.things.heights[number]; row++) {
                for (int column = x; column < x + layout.things.widths[number]; column++) {
                    if (grid.holds(column, row)) {
                        owners[cellOf(column, row)] = number;
                    }
                }
            }
        }

        // Only cells between the two ends, by column and by row, can touch the line.
        boolean isSeen(Layout layout, int number, int fromX, int fromY) {
            int toX = layout.xs[number];
            int toY = layout.ys[number];
            for (int y = Math.min(fromY, toY); y <= Math.max(fromY, toY); y++) {
                for (int x = Math.min(fromX, toX); x <= Math.max(fromX, toX); x++) {
                    if (hides(x, y, number) && isCrossed(x - fromX, y - fromY, toX - fromX, toY - fromY)) {
                        return false;
                    }
                }
            }
            return true;
        }

        private boolean hides(int x, int y, int number) {
            if (!grid.holds(x, y)) {
                return false;
            }
            int owner = owners[cellOf(x, y)];
            return owner != FREE && owner != number;
        }

        // A line along dx, dy from the middle of cell 0, 0 passes the middle of cell x, y at a
        // distance of |dx * y - dy * x| / length; the cell's inside reaches |dx| + |dy| over
        // 2 * length to each side. A corner or an edge is not the inside: hence below, not equal.
        private static boolean isCrossed(int x, int y, int dx, int dy) {
            return 2 * Math.abs(dx * y - dy * x) < Math.abs(dx) + Math.abs(dy);
        }

        // Goes from all free exits at once, so that each cell is met first from its nearest one.
        void measure(Exits exits) {
            Arrays.fill(steps, NONE);
            reachedCount = 0;
            for (int i = 0; i < exits.size; i++) {
                int cell = exits.cells[i];
                reach(cell % MOST_SIDE, cell / MOST_SIDE, 0);
            }
            for (int i = 0; i < reachedCount && i < MOST_CELLS; i++) {
                int x = reached[i] % MOST_SIDE;
                int y = reached[i] / MOST_SIDE;
                int next = steps[reached[i]] + 1;
                reach(x - 1, y, next);
                reach(x + 1, y, next);
                reach(x, y - 1, next);
                reach(x, y + 1, next);
            }
        }

        private void reach(int x, int y, int far) {
            if (!grid.holds(x, y)) {
                return;
            }
            int cell = cellOf(x, y);
            if (owners[cell] != FREE || steps[cell] != NONE || reachedCount >= MOST_CELLS) {
                return;
            }
            steps[cell] = far;
            reached[reachedCount] = cell;
            reachedCount++;
        }

        boolean hasEscape(Layout layout, int number, int furthest) {
            int x = layout.xs[number];
            int y = layout.ys[number];
            int w = layout.things.widths[number];
            int h = layout.things.heights[number];
            for (int row = y; row < y + h; row++) {
                if (isNear(x - 1, row, furthest) || isNear(x + w, row, furthest)) {
                    return true;
                }
            }
            for (int column = x; column < x + w; column++) {
                if (isNear(column, y - 1, furthest) || isNear(column, y + h, furthest)) {
                    return true;
                }
            }
            return false;
        }

        private boolean isNear(int x, int y, int furthest) {
            if (!grid.holds(x, y)) {
                return false;
            }
            int far = steps[cellOf(x, y)];
            return far != NONE && far <= furthest;
        }
    }

    /** The search, and what the latest one found. */
    private static final class Search {
        private final Grid grid;
        private final Things things;
        private final Places places;
        private final Exits exits;
        private final Floor floor;
        private final Layout trial;
        private final Layout best;
        private final int[] spots = new int[MOST_THINGS * MOST_CELLS];
        private final int[] spotCounts = new int[MOST_THINGS];
        private int limit = 0;
        private int nodeCount = 0;
        private int bestWorth = NONE;

        Search(Grid grid, Things things, Places places, Exits exits, Floor floor) {
            this.grid = grid;
            this.things = things;
            this.places = places;
            this.exits = exits;
            this.floor = floor;
            trial = new Layout(things);
            best = new Layout(things);
        }

        void forget() {
            nodeCount = 0;
            bestWorth = NONE;
        }

        boolean hasFound() {
            return bestWorth != NONE;
        }

        void begin(int nodeLimit) {
            forget();
            limit = nodeLimit;
            for (int number = 0; number < things.size; number++) {
                listSpots(number);
            }
        }

        // Walls and classes stay as they are during a search, so they are looked at once.
        private void listSpots(int number) {
            int found = 0;
            for (int y = 0; y < grid.height; y++) {
                for (int x = 0; x < grid.width; x++) {
                    if (grid.carries(x, y, things.widths[number], things.heights[number], things.classes[number])) {
                        spots[number * MOST_CELLS + found] = cellOf(x, y);
                        found++;
                    }
                }
            }
            spotCounts[number] = found;
        }

        // Whether all was looked at: false once a node comes for which none is left.
        boolean tryThing(int number, int gained) {
            if (number >= things.size || number >= MOST_THINGS) {
                judge(gained);
                return true;
            }
            for (int i = 0; i < spotCounts[number]; i++) {
                int cell = spots[number * MOST_CELLS + i];
                trial.xs[number] = cell % MOST_SIDE;
                trial.ys[number] = cell / MOST_SIDE;
                if (keepsApart(number)) {
                    if (nodeCount >= limit) {
                        return false;
                    }
                    nodeCount++;
                    if (!tryThing(number + 1, gained + gainOf(number))) {
                        return false;
                    }
                }
            }
            return true;
        }

        private boolean keepsApart(int number) {
            for (int other = 0; other < number; other++) {
                if (trial.gapOf(number, other) < things.gaps[pairOf(number, other)]) {
                    return false;
                }
            }
            return true;
        }

        private int gainOf(int number) {
            int gain = 0;
            for (int other = 0; other < number; other++) {
                int wished = things.wishes[pairOf(number, other)];
                if (wished != 0 && trial.gapOf(number, other) == 0) {
                    gain += wished;
                }
            }
            return gain;
        }

        // One that is worth no more than the best can't replace it, whatever the places see.
        private void judge(int gained) {
            if (gained <= bestWorth) {
                return;
            }
            floor.lay(trial);
            if (allSeen() && allEscape()) {
                best.copyFrom(trial);
                bestWorth = gained;
            }
        }

        private boolean allSeen() {
            for (int place = 0; place < places.size; place++) {
                for (int number = 0; number < things.size; number++) {
                    if (places.musts[sightOf(place, number)]
                            && !floor.isSeen(trial, number, places.xs[place], places.ys[place])) {
                        return false;
                    }
                }
            }
            return true;
        }

        private boolean allEscape() {
            if (exits.size == 0) {
                return true;
            }
            floor.measure(exits);
            for (int number = 0; number < things.size; number++) {
                if (!floor.hasEscape(trial, number, exits.furthest)) {
                    return false;
                }
            }
            return true;
        }
    }
}
