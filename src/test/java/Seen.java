/**
 * What can be read from an object without changing it, as one text; of cells and things only a
 * few, so that a test stays below the 512 calls that the document promises.
 */
final class Seen {
    private Seen() {
    }

    static String of(CaseLayout layout) {
        StringBuilder text = new StringBuilder();
        for (int what = 0; what < 4; what++) {
            text.append(layout.count(what)).append(' ');
        }
        text.append("nodes ").append(layout.nodes()).append(" worth ").append(layout.worth());
        text.append(" last thing ").append(answer(() -> layout.at(layout.count(0) - 1, 0)));
        text.append(' ').append(answer(() -> layout.at(layout.count(0) - 1, 1)));
        text.append(" seen ").append(answer(() -> layout.sight(0, 0) ? 1 : 0));
        text.append(" way ").append(answer(() -> layout.escape(0, 0)));
        return text.toString();
    }

    private static String answer(Check.Call call) {
        try {
            return String.valueOf(call.answer());
        } catch (IllegalStateException e) {
            return "nothing found";
        } catch (IndexOutOfBoundsException e) {
            return "no such";
        }
    }
}
