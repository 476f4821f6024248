/**
 * Every run of up to four calls out of a few that meddle with one another, from several starts, against the second
 * reading of the document in ModelTest; after each run everything is asked. An argument gives the runs another length.
 */
public final class ShortRunsTest {
    private static final int USUAL_LENGTH = 4;
    private static final int LETTERS = 18;

    /** Every start has the objects 0 and 1 in segment 0, 2 in segment 1, and view 0; then come these letters. */
    private static final int[][] STARTS = {
        {}, {8, 9}, {9, 8, 6}, {8, 5, 10, 7, 4}, {0, 5, 9, 10, 6}, {8, 5, 10, 6, 3, 4, 1},
    };

    private final Expect expect = new Expect();
    private final int[] run;
    private int length = 0;
    private int runs = 0;

    private ShortRunsTest(int most) {
        run = new int[most];
    }

    private static long made(GroupCursors x, int letter) {
        return switch (letter) {
            case 0 -> x.drop(0) ? 1 : 0;
            case 1 -> x.drop(1) ? 1 : 0;
            case 2 -> x.drop(2) ? 1 : 0;
            case 3 -> x.add(1, 4, 0) * 10L + x.commit();
            case 4 -> x.merge(9);
            case 5 -> x.view();
            case 6 -> x.letGo(0);
            case 7 -> x.letGo(1);
            case 8 -> x.cursor(0, 0, 0, 1, 0, 1);
            case 9 -> x.iterator(0, 1, 0, 0);
            case 10 -> x.cursor(1, 2, 5, 2, 1, 2);
            case 11 -> x.take(0, 2);
            case 12 -> x.take(1, 1);
            case 13 -> x.next(0);
            case 14 -> x.next(1);
            case 15 -> x.close(0);
            case 16 -> x.close(1);
            default -> x.tick(1);
        };
    }

    private static long due(ModelTest.Model m, int letter) {
        return switch (letter) {
            case 0 -> m.drop(0);
            case 1 -> m.drop(1);
            case 2 -> m.drop(2);
            case 3 -> m.add(1, 4, 0) * 10L + m.commit();
            case 4 -> m.merge(9);
            case 5 -> m.view();
            case 6 -> m.letGo(0);
            case 7 -> m.letGo(1);
            case 8 -> m.cursor(0, 0, 0, 1, 0, 1);
            case 9 -> m.iterator(0, 1, 0, 0);
            case 10 -> m.cursor(1, 2, 5, 2, 1, 2);
            case 11 -> m.take(0, 2);
            case 12 -> m.take(1, 1);
            case 13 -> m.next(0);
            case 14 -> m.next(1);
            case 15 -> m.close(0);
            case 16 -> m.close(1);
            default -> m.tick(1);
        };
    }

    private void both(String call, Expect.Call real, Expect.Call due) {
        String want = ModelTest.outcome(due);
        String got = ModelTest.outcome(real);
        if (!got.equals(want)) {
            expect.report(told() + ": " + call, got, want);
        }
    }

    private String told() {
        StringBuilder text = new StringBuilder("run " + runs + ", letters");
        for (int i = 0; i < length; i++) {
            text.append(' ').append(run[i]);
        }
        return text.toString();
    }

    private void oneRun(int[] start) {
        GroupCursors x = new GroupCursors();
        ModelTest.Model m = new ModelTest.Model();
        both("add", () -> x.add(0, 1, 1) + x.add(1, 2, 2) + x.commit(), () -> m.add(0, 1, 1) + m.add(1, 2, 2) + m.commit());
        both("add", () -> x.add(0, 3, 3) + x.commit() + x.view(), () -> m.add(0, 3, 3) + m.commit() + m.view());
        for (int letter : start) {
            both("start", () -> made(x, letter), () -> due(m, letter));
        }
        for (int i = 0; i < length; i++) {
            int letter = run[i];
            both("letter " + letter, () -> made(x, letter), () -> due(m, letter));
        }
        askAll(x, m);
        runs++;
    }

    private void askAll(GroupCursors x, ModelTest.Model m) {
        for (int i = 0; i <= 11; i++) {
            int what = i;
            both("told", () -> x.told(what), () -> m.told(what));
        }
        for (int i = 0; i < m.page.size(); i++) {
            int at = i;
            both("page", () -> x.page(at), () -> m.page(at));
        }
        for (int i = 0; i < m.readers.size(); i++) {
            int reader = i;
            both("left", () -> x.left(reader), () -> m.left(reader));
        }
        for (int i = 0; i < 3 * m.segments; i++) {
            int at = i;
            both("segment", () -> x.segment(at / 3, at % 3), () -> m.segment(at / 3, at % 3));
        }
        for (int i = 0; i < m.things.size(); i++) {
            int thing = i;
            both("object, 3", () -> x.object(thing, 3), () -> m.object(thing, 3));
            both("object, 4", () -> x.object(thing, 4), () -> m.object(thing, 4));
        }
        for (int i = 0; i < m.views.size(); i++) {
            askView(x, m, i);
        }
    }

    private void askView(GroupCursors x, ModelTest.Model m, int view) {
        both("state", () -> x.state(view), () -> m.state(view));
        both("size", () -> x.size(view), () -> m.thingsOf(view).size());
        both("groups", () -> x.groups(view), () -> m.groupsOf(view, 0, 0).size());
        for (int i = 0; i < m.things.size(); i++) {
            int thing = i;
            both("place", () -> x.place(view, 1, 0, thing), () -> m.place(view, 1, 0, thing));
        }
    }

    private void runsFrom(int[] start) {
        oneRun(start);
        if (length == run.length || expect.wrongOnes() > 0) {
            return;
        }
        for (int letter = 0; letter < LETTERS; letter++) {
            run[length] = letter;
            length++;
            runsFrom(start);
            length--;
        }
    }

    public static void main(String[] args) {
        ShortRunsTest test = new ShortRunsTest(args.length > 0 ? Integer.parseInt(args[0]) : USUAL_LENGTH);
        for (int[] start : STARTS) {
            test.runsFrom(start);
        }
        test.expect.due("runs with a wrong answer, of " + test.runs, 0, () -> test.expect.wrongOnes());
        System.out.println(test.runs + " runs");
        test.expect.done();
    }
}
