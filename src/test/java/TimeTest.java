/** Promises 25 (tick) and 26 (told). */
public final class TimeTest {
    private static GroupCursors withView() {
        GroupCursors x = new GroupCursors();
        x.add(1, 1, 1);
        x.add(2, 2, 2);
        x.commit();
        x.view();
        return x;
    }

    private static void cursorsEnd(Expect expect) {
        GroupCursors x = withView();
        x.cursor(0, 0, 0, 1, 0, 5);
        x.cursor(0, 0, 0, 1, 0, 5);
        x.cursor(0, 0, 0, 1, 0, 6);
        x.iterator(0, 0, 0, -1);
        expect.due("tick(0)", 0, () -> x.tick(0));
        expect.due("tick(3)", 0, () -> x.tick(3));
        expect.due("take(1, 1) at 3", 1, () -> x.take(1, 1));
        expect.due("tick(2): NOW is the END, not above it", 0, () -> x.tick(2));
        expect.due("left(0)", 2, () -> x.left(0));
        expect.due("tick(1)", 1, () -> x.tick(1));
        expect.due("left(0) then", -1, () -> x.left(0));
        expect.due("take(0, 1): an ended one is not renewed", -1, () -> x.take(0, 1));
        expect.due("left(1): it goes on till 8", 1, () -> x.left(1));
        expect.due("left(2): it goes on till 6", 2, () -> x.left(2));
        expect.badArgument("take(2, 0)", () -> x.take(2, 0));
        expect.due("tick(1): a take that throws renews nothing", 1, () -> x.tick(1));
        x.letGo(0);
        x.close(3);
        expect.due("told(10)", 7, () -> x.told(10));
        expect.due("state(0)", 1, () -> x.state(0));
        expect.due("tick(2)", 1, () -> x.tick(2));
        expect.due("state(0) then", 2, () -> x.state(0));
        expect.due("tick(10000): none is left", 0, () -> x.tick(10000));
    }

    private static void iteratorsDoNot(Expect expect) {
        GroupCursors x = withView();
        x.iterator(0, 0, 0, -1);
        x.cursor(0, 0, 0, 1, 0, 1000);
        x.close(1);
        expect.due("tick(10000)", 0, () -> x.tick(10000));
        expect.due("left(0)", 2, () -> x.left(0));
    }

    private static void emptyTakeRenews(Expect expect) {
        GroupCursors x = withView();
        x.cursor(0, 0, 0, 1, 0, 2);
        x.take(0, 2);
        x.tick(2);
        expect.due("take of none", 0, () -> x.take(0, 2));
        expect.due("tick(2)", 0, () -> x.tick(2));
        expect.due("tick(1)", 1, () -> x.tick(1));
    }

    private static void tickFrees(Expect expect) {
        GroupCursors x = withView();
        x.cursor(0, 0, 0, 1, 0, 1);
        x.letGo(0);
        x.drop(0);
        x.drop(1);
        expect.due("told(4)", 1, () -> x.told(4));
        expect.due("tick(2)", 1, () -> x.tick(2));
        expect.due("told(4) then", 0, () -> x.told(4));
        expect.due("told(5) then", 1, () -> x.told(5));
    }

    private static void wrongTicks(Expect expect) {
        GroupCursors x = new GroupCursors();
        expect.badArgument("tick(-1)", () -> x.tick(-1));
        expect.badArgument("tick(10001)", () -> x.tick(10001));
        expect.badArgument("tick(MAX)", () -> x.tick(Integer.MAX_VALUE));
        expect.badArgument("tick(MIN)", () -> x.tick(Integer.MIN_VALUE));
        expect.due("told(10)", 0, () -> x.told(10));
        expect.due("tick(10000)", 0, () -> x.tick(10000));
        expect.due("told(10) then", 10000, () -> x.told(10));
    }

    /** 512 calls do not go so far; no other test makes more calls than the document promises answers for. */
    private static void lastNow(Expect expect) {
        GroupCursors x = withView();
        for (int i = 0; i < 99999; i++) {
            x.tick(10000);
        }
        expect.due("tick(9999)", 0, () -> x.tick(9999));
        x.cursor(0, 0, 0, 1, 0, 1);
        x.cursor(0, 0, 0, 1, 0, 1000);
        expect.badArgument("tick(2): NOW would be 1000000001", () -> x.tick(2));
        expect.badArgument("tick(10000)", () -> x.tick(10000));
        expect.due("told(10): a tick that throws changes nothing", 999999999, () -> x.told(10));
        expect.due("told(9)", 2, () -> x.told(9));
        expect.due("tick(1): NOW may be 1000000000", 0, () -> x.tick(1));
        expect.due("told(10) then", 1000000000, () -> x.told(10));
        expect.badArgument("tick(1) again", () -> x.tick(1));
        expect.due("tick(0)", 0, () -> x.tick(0));
        expect.due("left(0): NOW is its END", 2, () -> x.left(0));
        expect.due("take(1, 1): an END above the last NOW", 1, () -> x.take(1, 1));
        expect.due("told(10) at last", 1000000000, () -> x.told(10));
    }

    private static void dueTold(Expect expect, GroupCursors x, int... answers) {
        for (int i = 0; i < answers.length; i++) {
            int what = i;
            expect.due("told(" + what + ")", answers[what], () -> x.told(what));
        }
    }

    private static void telling(Expect expect) {
        GroupCursors x = new GroupCursors();
        for (int i = 0; i < 9; i++) {
            x.add(i % 2, i, i);
            if (i < 7) {
                x.commit();
            }
        }
        x.drop(0);
        x.view();
        x.drop(8);
        x.drop(1);
        x.view();
        x.view();
        x.letGo(2);
        x.cursor(0, 0, 0, 1, 0, 9);
        x.cursor(1, 0, 0, 1, 0, 9);
        x.iterator(1, 0, 0, -1);
        x.close(1);
        x.take(0, 4);
        x.tick(5);
        dueTold(expect, x, 9, 1, 7, 5, 1, 1, 3, 2, 3, 2, 5, 4);
        expect.noIndex("told(12)", () -> x.told(12));
        expect.noIndex("told(-1)", () -> x.told(-1));
        expect.noIndex("told(MAX)", () -> x.told(Integer.MAX_VALUE));
        expect.noIndex("told(MIN)", () -> x.told(Integer.MIN_VALUE));
    }

    public static void main(String[] args) {
        Expect expect = new Expect();
        cursorsEnd(expect);
        iteratorsDoNot(expect);
        emptyTakeRenews(expect);
        tickFrees(expect);
        wrongTicks(expect);
        lastNow(expect);
        telling(expect);
        expect.done();
    }
}
