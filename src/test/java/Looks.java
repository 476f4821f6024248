import java.util.ArrayList;
import java.util.List;

/**
 * What can be asked of an object in some state, and what comes of going on with it: rows of calls.
 * Two objects that answer all of these alike are taken to be in the same state.
 */
final class Looks {
    private final List<String> questions = new ArrayList<>();
    private final List<List<String>> waysOn = new ArrayList<>();
    private final int objects;
    private final int segments;
    private final int views;
    private final int readers;
    private final int pageLength;

    /** The object is asked how many of each there are; that takes no more than 65 calls. */
    Looks(GroupCursors x) {
        objects = x.told(0);
        segments = x.told(2);
        views = x.told(6);
        readers = x.told(8);
        pageLength = x.told(11);
        askAll();
        for (int i = 0; i < views; i++) {
            askView(i, x.size(i), x.groups(i));
        }
        goOn();
    }

    /** Calls that should change nothing: they may be asked in one go, or in parts. */
    List<String> questions() {
        return questions;
    }

    /** Rows of calls that change the object, each row for an object of its own. */
    List<List<String>> waysOn() {
        return waysOn;
    }

    private void ask(String call) {
        questions.add(call);
    }

    private void askAll() {
        for (int what = 0; what <= 11; what++) {
            ask("told(" + what + ")");
        }
        for (int i = 0; i < pageLength; i++) {
            ask("page(" + i + ")");
        }
        for (int i = 0; i < readers; i++) {
            ask("left(" + i + ")");
        }
        for (int i = 0; i < segments; i++) {
            for (int what = 0; what <= 2; what++) {
                ask("segment(" + i + ", " + what + ")");
            }
        }
        for (int i = 0; i < objects; i++) {
            for (int what = 0; what <= 4; what++) {
                ask("object(" + i + ", " + what + ")");
            }
        }
    }

    private void askView(int view, int size, int groups) {
        ask("state(" + view + ")");
        ask("size(" + view + ")");
        ask("groups(" + view + ")");
        for (int kind = 0; kind <= 2; kind++) {
            String order = "(" + view + ", " + kind + ", 3, ";
            for (int k : some(size)) {
                ask("hit" + order + k + ")");
            }
            for (int k : some(groups)) {
                ask("group" + order + k + ")");
                ask("counted" + order + k + ")");
                ask("best" + order + k + ", 0)");
            }
        }
    }

    /** All of a few; of many the first two, the middle and the last two. */
    private static int[] some(int many) {
        if (many > 6) {
            return new int[] {0, 1, many / 2, many - 2, many - 1};
        }
        int[] all = new int[many];
        for (int i = 0; i < many; i++) {
            all[i] = i;
        }
        return all;
    }

    private void goOn() {
        waysOn.add(List.of("add(5, 5, 5)", "told(0)", "told(1)", "commit()", "told(1)", "told(2)", "view()", "size(0)"));
        waysOn.add(List.of("commit()", "merge(MAX)", "told(2)", "told(3)", "told(4)", "told(5)"));
        waysOn.add(List.of("merge(3)", "told(2)", "merge(MAX)", "told(2)", "told(3)"));
        waysOn.add(List.of("view()", "told(6)", "told(7)", "told(3)", "cursor(0, 2, 1, 1, 0, 1)", "told(8)", "iterator(0, 0, 0, -1)"));
        readAll();
        timePasses();
        endAll();
    }

    private void readAll() {
        for (int i = 0; i < readers; i++) {
            waysOn.add(List.of("take(" + i + ", 50)", "page(0)", "page(1)", "left(" + i + ")", "next(" + i + ")",
                "next(" + i + ")", "left(" + i + ")"));
        }
    }

    /** Step by step, so that an END that is one off shows. */
    private void timePasses() {
        List<String> row = new ArrayList<>();
        for (int step : new int[] {1, 1, 1, 1, 1, 1, 1, 1, 490, 1, 1, 498, 1, 1, 1, 1, 1, 1, 10000}) {
            row.add("tick(" + step + ")");
            row.add("told(9)");
        }
        waysOn.add(row);
    }

    private void endAll() {
        List<String> ends = new ArrayList<>();
        for (int i = 0; i < views; i++) {
            ends.add("letGo(" + i + ")");
            ends.add("state(" + i + ")");
        }
        for (int i = 0; i < readers; i++) {
            ends.add("close(" + i + ")");
        }
        ends.add("told(5)");
        ends.add("told(7)");
        waysOn.add(ends);
        List<String> drops = new ArrayList<>();
        for (int i = 0; i < objects; i++) {
            drops.add("drop(" + i + ")");
        }
        drops.add("told(4)");
        waysOn.add(drops);
    }
}
