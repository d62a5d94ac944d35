import java.util.Random;
import java.util.TreeMap;

/** Runs of calls drawn from a fixed seed, answered by the class and by the model alike. */
public final class ModelTest {
    private static final int OBJECTS = 3000;
    private static final int[] WILD = {Integer.MIN_VALUE, -100, -2, -1, 9, 10, 100, 20001, Integer.MAX_VALUE};

    private static final TreeMap<String, Integer> kinds = new TreeMap<>();

    public static void main(String[] args) {
        for (int seed = 0; seed < OBJECTS; seed++) {
            compare(seed);
        }
        needKinds();
        Check.end();
    }

    private static void compare(int seed) {
        Random random = new Random(seed);
        int width = random.nextInt(20) == 0 ? wild(random) : 1 + random.nextInt(9);
        int height = random.nextInt(20) == 0 ? wild(random) : 1 + random.nextInt(9);
        int sizes = 1 + random.nextInt(4);
        int enough = 1 + random.nextInt(random.nextInt(3) == 0 ? 8 : 4);
        CaseLayout layout = new CaseLayout(width, height);
        Model model = new Model(width, height);
        int calls = 20 + random.nextInt(150);
        StringBuilder told = new StringBuilder("new CaseLayout(" + width + ", " + height + ")");
        for (int i = 0; i < calls; i++) {
            String name = pick(random, i, model.count(0) >= enough);
            int[] n = arguments(random, name, sizes, model);
            keepInside(random, name, n, width, height);
            boolean on = random.nextInt(4) != 0;
            String got = Check.answer(() -> ask(layout, name, n, on));
            String want = Check.answer(() -> ask(model, name, n, on));
            told.append("; ").append(name).append(' ').append(n[0]).append(' ').append(n[1]).append(' ')
                    .append(n[2]).append(' ').append(on).append(": ").append(got);
            kinds.merge(name + (got.equals("0") || got.startsWith("I") || name.equals("run") ? " " + got : " other"),
                    1, Integer::sum);
            if (!got.equals(want)) {
                Check.tell("seed " + seed + ", due is " + want + " at the end of " + told);
                return;
            }
        }
    }

    /** Each answer of importance has to have been met, or the seeds compare too little. */
    private static void needKinds() {
        String[] needed = {"run 0", "run 1", "run 2", "run IllegalArgumentException", "sight 0", "sight other",
            "escape 0", "escape other", "escape IllegalStateException", "worth 0", "worth other", "nodes 0",
            "nodes other", "wall 0", "wall other", "sees 0", "sees other", "at 0", "at other",
            "at IllegalStateException", "at IndexOutOfBoundsException", "exit IllegalArgumentException",
            "place IllegalArgumentException", "apart other", "wish other", "zone other", "most other"};
        for (String kind : needed) {
            if (kinds.getOrDefault(kind, 0) < 20) {
                Check.tell("met too seldom: " + kind + ", of " + kinds);
            }
        }
    }

    /** The first calls build, the later ones ask more; a run comes often, as most calls forget it. */
    private static String pick(Random random, int call, boolean enough) {
        String[] build = {"wall", "wall", "zone", "thing", "thing", "apart", "wish", "wish", "place", "place",
            "sees", "sees", "exit", "most"};
        String[] ask = {"run", "run", "run", "nodes", "at", "at", "worth", "sight", "sight", "sight", "escape",
            "escape", "escape", "count"};
        int building = call < 15 ? 85 : 15;
        String[] names = random.nextInt(100) < building ? build : ask;
        String name = names[random.nextInt(names.length)];
        return name.equals("thing") && enough && random.nextInt(15) != 0 ? "sees" : name;
    }

    /** Most cells asked for are in the grid, so that more than refusals is compared. */
    private static void keepInside(Random random, String name, int[] n, int width, int height) {
        boolean cell = "wall zone place exit escape".contains(name);
        if (cell && random.nextInt(12) != 0) {
            n[0] = random.nextInt(Math.max(1, Math.min(9, width)));
            n[1] = random.nextInt(Math.max(1, Math.min(9, height)));
        }
    }

    private static int[] arguments(Random random, String name, int sizes, Model model) {
        int[] n = {random.nextInt(9), random.nextInt(9), random.nextInt(4)};
        switch (name) {
            case "thing" -> {
                n[0] = 1 + random.nextInt(sizes);
                n[1] = 1 + random.nextInt(sizes);
                n[2] = random.nextInt(5) == 0 ? random.nextInt(4) : 0;
            }
            case "apart", "wish" -> {
                n[0] = number(random, model.count(0));
                n[1] = number(random, model.count(0));
                n[2] = name.equals("wish") ? random.nextInt(100) : random.nextInt(3) * random.nextInt(3);
            }
            case "sees", "sight" -> {
                n[0] = number(random, model.count(1));
                n[1] = number(random, model.count(0));
            }
            case "at" -> {
                n[0] = number(random, model.count(0));
                n[1] = random.nextInt(2);
            }
            case "most" -> n[0] = random.nextInt(3) == 0 ? random.nextInt(5) : random.nextInt(100);
            case "run" -> n[0] = random.nextInt(60) == 0 ? 20000 : random.nextInt(400);
            case "count" -> n[0] = random.nextInt(4);
            default -> { }
        }
        if (random.nextInt(12) == 0) {
            n[random.nextInt(3)] = wild(random);
        }
        return n;
    }

    private static int number(Random random, int size) {
        return size == 0 || random.nextInt(12) == 0 ? size : random.nextInt(size);
    }

    private static int wild(Random random) {
        return WILD[random.nextInt(WILD.length)];
    }

    private static long ask(CaseLayout x, String name, int[] n, boolean on) {
        return switch (name) {
            case "wall" -> x.wall(n[0], n[1], on) ? 1 : 0;
            case "zone" -> x.zone(n[0], n[1], n[2]);
            case "thing" -> x.thing(n[0], n[1], n[2]);
            case "apart" -> x.apart(n[0], n[1], n[2]);
            case "wish" -> x.wish(n[0], n[1], n[2]);
            case "place" -> x.place(n[0], n[1]);
            case "sees" -> x.sees(n[0], n[1], on) ? 1 : 0;
            case "exit" -> x.exit(n[0], n[1]);
            case "most" -> x.most(n[0]);
            case "run" -> x.run(n[0]);
            case "nodes" -> x.nodes();
            case "at" -> x.at(n[0], n[1]);
            case "worth" -> x.worth();
            case "sight" -> x.sight(n[0], n[1]) ? 1 : 0;
            case "escape" -> x.escape(n[0], n[1]);
            default -> x.count(n[0]);
        };
    }

    private static long ask(Model x, String name, int[] n, boolean on) {
        return switch (name) {
            case "wall" -> x.wall(n[0], n[1], on) ? 1 : 0;
            case "zone" -> x.zone(n[0], n[1], n[2]);
            case "thing" -> x.thing(n[0], n[1], n[2]);
            case "apart" -> x.apart(n[0], n[1], n[2]);
            case "wish" -> x.wish(n[0], n[1], n[2]);
            case "place" -> x.place(n[0], n[1]);
            case "sees" -> x.sees(n[0], n[1], on) ? 1 : 0;
            case "exit" -> x.exit(n[0], n[1]);
            case "most" -> x.most(n[0]);
            case "run" -> x.run(n[0]);
            case "nodes" -> x.nodes();
            case "at" -> x.at(n[0], n[1]);
            case "worth" -> x.worth();
            case "sight" -> x.sight(n[0], n[1]) ? 1 : 0;
            case "escape" -> x.escape(n[0], n[1]);
            default -> x.count(n[0]);
        };
    }
}
