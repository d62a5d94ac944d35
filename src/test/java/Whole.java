/**
 * All that can be got out of an object, as one text: first what can be read, then what only a new
 * search or a change tells. The changes end the object's use, so compare two that are made alike.
 */
final class Whole {
    private final CaseLayout layout;
    private final int width;
    private final int height;
    private final StringBuilder text = new StringBuilder();

    private Whole(CaseLayout layout, int width, int height) {
        this.layout = layout;
        this.width = width;
        this.height = height;
    }

    static String of(CaseLayout layout, int width, int height) {
        Whole whole = new Whole(layout, width, height);
        whole.read();
        whole.text.append("run ").append(layout.run(300)).append(' ').append(layout.nodes()).append(' ')
                .append(layout.worth()).append('\n');
        whole.change();
        return whole.text.toString();
    }

    /** Only what can be read, and so can be asked of one object before and after a call. */
    static String readOnly(CaseLayout layout, int width, int height) {
        Whole whole = new Whole(layout, width, height);
        whole.read();
        return whole.text.toString();
    }

    private void read() {
        for (int what = 0; what < 4; what++) {
            add("count " + what, layout.count(what));
        }
        add("nodes", layout.nodes());
        add("worth", layout.worth());
        int things = layout.count(0);
        for (int i = 0; i < things * 2; i++) {
            int n = i;
            add("at " + n / 2 + " " + n % 2, Check.answer(() -> layout.at(n / 2, n % 2)));
        }
        int sights = layout.count(1) * things;
        for (int i = 0; i < sights; i++) {
            int n = i;
            add("sight " + n / things + " " + n % things,
                    Check.answer(() -> layout.sight(n / things, n % things) ? 1 : 0));
        }
        for (int i = 0; i < width * height; i++) {
            int n = i;
            add("escape " + n % width + " " + n / width, Check.answer(() -> layout.escape(n % width, n / width)));
        }
    }

    private void change() {
        add("most", layout.most(0));
        int things = layout.count(0);
        int places = layout.count(1);
        for (int a = 0; a < things; a++) {
            for (int b = a + 1; b < things; b++) {
                add("apart " + a + " " + b, layout.apart(a, b, 0));
                add("wish " + a + " " + b, layout.wish(a, b, 0));
            }
            for (int place = 0; place < places; place++) {
                add("sees " + place + " " + a, layout.sees(place, a, false) ? 1 : 0);
            }
        }
        for (int y = 0; y < height; y++) {
            for (int x = 0; x < width; x++) {
                add("zone " + x + " " + y, layout.zone(x, y, 0));
                add("wall off " + x + " " + y, layout.wall(x, y, false) ? 1 : 0);
                add("wall on " + x + " " + y, layout.wall(x, y, true) ? 1 : 0);
            }
        }
    }

    private void add(String call, long answer) {
        add(call, String.valueOf(answer));
    }

    private void add(String call, String answer) {
        text.append(call).append(": ").append(answer).append('\n');
    }
}
