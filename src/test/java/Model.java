import java.util.ArrayList;
import java.util.Arrays;
import java.util.List;

/**
 * The document once more, told as plainly as can be and by other means than the class: cell by
 * cell, with lines cut exactly and ways spread until nothing changes.
 */
final class Model {
    private final int width;
    private final int height;
    private final boolean[][] wall;
    private final int[][] zone;
    private final List<int[]> things = new ArrayList<>();
    private final List<int[]> places = new ArrayList<>();
    private final List<int[]> exits = new ArrayList<>();
    private final int[][] apart = new int[7][7];
    private final int[][] wish = new int[7][7];
    private final boolean[][] must = new boolean[8][7];
    private int most = 99;

    private int nodes = 0;
    private int left = 0;
    private int worth = -1;
    private int[][] best = null;

    Model(int width, int height) {
        this.width = width < 1 ? 1 : width > 9 ? 9 : width;
        this.height = height < 1 ? 1 : height > 9 ? 9 : height;
        wall = new boolean[this.height][this.width];
        zone = new int[this.height][this.width];
    }

    boolean wall(int x, int y, boolean on) {
        cell(x, y);
        if (contains(places, x, y) || contains(exits, x, y) || wall[y][x] == on) {
            return false;
        }
        wall[y][x] = on;
        forget();
        return true;
    }

    int zone(int x, int y, int c) {
        cell(x, y);
        range(c, 0, 3);
        int before = zone[y][x];
        zone[y][x] = c;
        forget();
        return before;
    }

    int thing(int w, int h, int c) {
        state(things.size() < 7);
        range(w, 1, 4);
        range(h, 1, 4);
        range(c, 0, 3);
        things.add(new int[] {w, h, c});
        forget();
        return things.size() - 1;
    }

    int apart(int a, int b, int steps) {
        return pair(apart, a, b, steps, 5);
    }

    int wish(int a, int b, int value) {
        return pair(wish, a, b, value, 99);
    }

    private int pair(int[][] table, int a, int b, int value, int greatest) {
        index(a, things.size());
        index(b, things.size());
        if (a == b) {
            throw new IllegalArgumentException();
        }
        range(value, 0, greatest);
        int before = table[Math.min(a, b)][Math.max(a, b)];
        table[Math.min(a, b)][Math.max(a, b)] = value;
        forget();
        return before;
    }

    int place(int x, int y) {
        cell(x, y);
        state(places.size() < 8);
        if (wall[y][x]) {
            throw new IllegalArgumentException();
        }
        places.add(new int[] {x, y});
        return places.size() - 1;
    }

    boolean sees(int place, int thing, boolean on) {
        index(place, places.size());
        index(thing, things.size());
        boolean before = must[place][thing];
        must[place][thing] = on;
        forget();
        return before != on;
    }

    int exit(int x, int y) {
        cell(x, y);
        state(exits.size() < 6);
        if (wall[y][x] || contains(exits, x, y)) {
            throw new IllegalArgumentException();
        }
        exits.add(new int[] {x, y});
        forget();
        return exits.size();
    }

    int most(int steps) {
        range(steps, 0, 99);
        int before = most;
        most = steps;
        forget();
        return before;
    }

    int run(int limit) {
        range(limit, 0, 20000);
        forget();
        left = limit;
        boolean whole = go(new int[things.size()][], 0);
        return !whole ? 1 : best != null ? 0 : 2;
    }

    int nodes() {
        return nodes;
    }

    int at(int thing, int what) {
        index(thing, things.size());
        index(what, 2);
        state(best != null);
        return best[thing][what];
    }

    int worth() {
        return worth;
    }

    boolean sight(int place, int thing) {
        index(place, places.size());
        index(thing, things.size());
        state(best != null);
        return seen(best, place, thing);
    }

    int escape(int x, int y) {
        cell(x, y);
        state(best != null);
        return ways(best)[y][x];
    }

    int count(int what) {
        index(what, 4);
        int walls = 0;
        for (boolean[] row : wall) {
            for (boolean on : row) {
                walls += on ? 1 : 0;
            }
        }
        return new int[] {things.size(), places.size(), exits.size(), walls}[what];
    }

    private boolean go(int[][] lying, int number) {
        if (number == things.size()) {
            judge(lying);
            return true;
        }
        for (int y = 0; y < height; y++) {
            for (int x = 0; x < width; x++) {
                lying[number] = null;
                if (!lies(lying, number, x, y)) {
                    continue;
                }
                lying[number] = new int[] {x, y};
                if (!keepsApart(lying, number)) {
                    continue;
                }
                if (left == 0) {
                    return false;
                }
                left--;
                nodes++;
                if (!go(lying, number + 1)) {
                    return false;
                }
                Arrays.fill(lying, number + 1, lying.length, null);
            }
        }
        lying[number] = null;
        return true;
    }

    private boolean lies(int[][] lying, int number, int x, int y) {
        int[] thing = things.get(number);
        for (int i = x; i < x + thing[0]; i++) {
            for (int j = y; j < y + thing[1]; j++) {
                if (i >= width || j >= height || wall[j][i] || ownerOf(lying, i, j) >= 0) {
                    return false;
                }
                if (thing[2] > 0 && zone[j][i] != thing[2]) {
                    return false;
                }
            }
        }
        return true;
    }

    private int ownerOf(int[][] lying, int x, int y) {
        for (int number = 0; number < lying.length; number++) {
            if (lying[number] != null) {
                int dx = x - lying[number][0];
                int dy = y - lying[number][1];
                if (dx >= 0 && dy >= 0 && dx < things.get(number)[0] && dy < things.get(number)[1]) {
                    return number;
                }
            }
        }
        return -1;
    }

    private boolean keepsApart(int[][] lying, int number) {
        for (int other = 0; other < number; other++) {
            if (gap(lying, other, number) < apart[other][number]) {
                return false;
            }
        }
        return true;
    }

    private int gap(int[][] lying, int a, int b) {
        int gap = 0;
        for (int axis = 0; axis < 2; axis++) {
            int between = 0;
            for (int line = 0; line < 9; line++) {
                int sideA = side(lying[a][axis], things.get(a)[axis], line);
                int sideB = side(lying[b][axis], things.get(b)[axis], line);
                if (sideA * sideB < 0) {
                    between++;
                }
            }
            gap = Math.max(gap, between);
        }
        return gap;
    }

    private static int side(int from, int length, int line) {
        return line < from ? -1 : line >= from + length ? 1 : 0;
    }

    private void judge(int[][] lying) {
        int sum = 0;
        for (int a = 0; a < things.size(); a++) {
            for (int b = a + 1; b < things.size(); b++) {
                sum += gap(lying, a, b) == 0 ? wish[a][b] : 0;
            }
        }
        for (int place = 0; place < places.size(); place++) {
            for (int thing = 0; thing < things.size(); thing++) {
                if (must[place][thing] && !seen(lying, place, thing)) {
                    return;
                }
            }
        }
        if (!exits.isEmpty() && !escapesHold(lying)) {
            return;
        }
        if (sum > worth) {
            worth = sum;
            best = new int[lying.length][];
            for (int thing = 0; thing < lying.length; thing++) {
                best[thing] = lying[thing].clone();
            }
        }
    }

    private boolean escapesHold(int[][] lying) {
        int[][] ways = ways(lying);
        for (int thing = 0; thing < things.size(); thing++) {
            boolean holds = false;
            for (int y = 0; y < height; y++) {
                for (int x = 0; x < width; x++) {
                    boolean beside = ownerOf(lying, x - 1, y) == thing || ownerOf(lying, x + 1, y) == thing
                            || ownerOf(lying, x, y - 1) == thing || ownerOf(lying, x, y + 1) == thing;
                    holds |= beside && ways[y][x] >= 0 && ways[y][x] <= most;
                }
            }
            if (!holds) {
                return false;
            }
        }
        return true;
    }

    private int[][] ways(int[][] lying) {
        int[][] ways = new int[height][width];
        for (int[] row : ways) {
            Arrays.fill(row, -1);
        }
        for (int[] exit : exits) {
            if (free(lying, exit[0], exit[1])) {
                ways[exit[1]][exit[0]] = 0;
            }
        }
        boolean changed = true;
        while (changed) {
            changed = false;
            for (int y = 0; y < height; y++) {
                for (int x = 0; x < width; x++) {
                    if (free(lying, x, y)) {
                        changed |= shorten(ways, x, y, x - 1, y) | shorten(ways, x, y, x + 1, y)
                                | shorten(ways, x, y, x, y - 1) | shorten(ways, x, y, x, y + 1);
                    }
                }
            }
        }
        return ways;
    }

    private boolean shorten(int[][] ways, int x, int y, int fromX, int fromY) {
        if (fromX < 0 || fromY < 0 || fromX >= width || fromY >= height || ways[fromY][fromX] < 0) {
            return false;
        }
        int way = ways[fromY][fromX] + 1;
        if (ways[y][x] >= 0 && ways[y][x] <= way) {
            return false;
        }
        ways[y][x] = way;
        return true;
    }

    private boolean free(int[][] lying, int x, int y) {
        return !wall[y][x] && ownerOf(lying, x, y) < 0;
    }

    private boolean seen(int[][] lying, int place, int thing) {
        for (int y = 0; y < height; y++) {
            for (int x = 0; x < width; x++) {
                int owner = ownerOf(lying, x, y);
                boolean hides = wall[y][x] || (owner >= 0 && owner != thing);
                if (hides && enters(places.get(place), lying[thing], x, y)) {
                    return false;
                }
            }
        }
        return true;
    }

    /** Cuts the line with the cell's two open stripes; all numbers are scaled so as to be whole. */
    private static boolean enters(int[] from, int[] to, int x, int y) {
        int[] cell = {x, y};
        long whole = 1;
        for (int axis = 0; axis < 2; axis++) {
            whole *= Math.max(1, Math.abs(2 * (to[axis] - from[axis])));
        }
        long low = Long.MIN_VALUE;
        long high = Long.MAX_VALUE;
        for (int axis = 0; axis < 2; axis++) {
            long start = 2 * from[axis] + 1;
            long step = 2 * (to[axis] - from[axis]);
            if (step == 0) {
                if (cell[axis] != from[axis]) {
                    return false;
                }
                continue;
            }
            long one = (2 * cell[axis] - start) * whole / step;
            long two = (2 * cell[axis] + 2 - start) * whole / step;
            low = Math.max(low, Math.min(one, two));
            high = Math.min(high, Math.max(one, two));
        }
        return low < high && low < whole && high > 0;
    }

    private void forget() {
        nodes = 0;
        worth = -1;
        best = null;
    }

    private static boolean contains(List<int[]> cells, int x, int y) {
        for (int[] cell : cells) {
            if (cell[0] == x && cell[1] == y) {
                return true;
            }
        }
        return false;
    }

    private void cell(int x, int y) {
        index(x, width);
        index(y, height);
    }

    private static void index(int value, int size) {
        if (value < 0 || value >= size) {
            throw new IndexOutOfBoundsException();
        }
    }

    private static void state(boolean good) {
        if (!good) {
            throw new IllegalStateException();
        }
    }

    private static void range(int value, int least, int greatest) {
        if (value < least || value > greatest) {
            throw new IllegalArgumentException();
        }
    }
}
