/** Promises 14 (groups), 15 (group), 16 (counted), 17 (best). */
public final class GroupsTest {
    private static final long FAR = Long.MIN_VALUE;

    /** By kind 0: objects 3 0 4 1 2 5, groups FAR 10 -1. */
    private static GroupCursors sample() {
        GroupCursors x = new GroupCursors();
        x.add(10, 1, 2);
        x.add(10, 2, 4);
        x.add(-1, 3, 5);
        x.add(FAR, 4, 1);
        x.add(FAR, 5, 3);
        x.add(10, 6, 6);
        x.commit();
        x.view();
        return x;
    }

    private static void dueGroup(Expect expect, GroupCursors x, int kind, int k, long group, int... objects) {
        String of = "(0, " + kind + ", 0, " + k;
        expect.due("group" + of + ")", group, () -> x.group(0, kind, 0, k));
        expect.due("counted" + of + ")", objects.length, () -> x.counted(0, kind, 0, k));
        for (int i = 0; i < objects.length; i++) {
            int j = i;
            expect.due("best" + of + ", " + j + ")", objects[j], () -> x.best(0, kind, 0, k, j));
        }
        expect.noIndex("best behind the last" + of, () -> x.best(0, kind, 0, k, objects.length));
        expect.noIndex("best -1" + of, () -> x.best(0, kind, 0, k, -1));
    }

    private static void inOrder(Expect expect) {
        GroupCursors x = sample();
        expect.due("groups(0)", 3, () -> x.groups(0));
        dueGroup(expect, x, 0, 0, FAR, 3, 4);
        dueGroup(expect, x, 0, 1, 10, 0, 1, 5);
        dueGroup(expect, x, 0, 2, -1, 2);
        dueGroup(expect, x, 1, 0, 10, 5, 1, 0);
        dueGroup(expect, x, 1, 1, -1, 2);
        dueGroup(expect, x, 1, 2, FAR, 4, 3);
        x.drop(3);
        x.drop(4);
        x.view();
        expect.due("groups(0) whatever comes", 3, () -> x.groups(0));
        expect.due("groups(1)", 2, () -> x.groups(1));
        expect.due("group(1, 0, 0, 0)", 10, () -> x.group(1, 0, 0, 0));
    }

    private static void wrongOnes(Expect expect) {
        GroupCursors x = sample();
        expect.noIndex("groups(1)", () -> x.groups(1));
        expect.noIndex("groups(-1)", () -> x.groups(-1));
        for (int k : new int[] {-1, 3, Integer.MAX_VALUE, Integer.MIN_VALUE}) {
            expect.noIndex("group " + k, () -> x.group(0, 0, 0, k));
            expect.noIndex("group first, then kind: group " + k, () -> x.group(0, 3, 0, k));
            expect.noIndex("counted " + k, () -> x.counted(0, 0, 0, k));
            expect.noIndex("counted of kind 3 " + k, () -> x.counted(0, 3, 0, k));
            expect.noIndex("best " + k, () -> x.best(0, 0, 0, k, 0));
            expect.noIndex("best of kind 3 " + k, () -> x.best(0, 3, 0, k, 0));
        }
        for (int kind : new int[] {-1, 3}) {
            expect.badArgument("group of kind " + kind, () -> x.group(0, kind, 0, 0));
            expect.badArgument("counted of kind " + kind, () -> x.counted(0, kind, 0, 0));
            expect.badArgument("best of kind " + kind, () -> x.best(0, kind, 0, 0, 0));
            expect.badArgument("kind before the object: best of kind " + kind, () -> x.best(0, kind, 0, 0, 9));
        }
        expect.noIndex("group of no view", () -> x.group(1, 0, 0, 0));
        expect.noIndex("counted of no view", () -> x.counted(-1, 0, 0, 0));
        expect.noIndex("best of no view", () -> x.best(1, 3, 0, 0, 0));
    }

    private static void whenHeldAndEnded(Expect expect) {
        GroupCursors x = sample();
        x.cursor(0, 0, 0, 1, 0, 1);
        x.letGo(0);
        expect.due("groups(0) while HELD", 3, () -> x.groups(0));
        expect.due("best(0, 0, 0, 1, 2) while HELD", 5, () -> x.best(0, 0, 0, 1, 2));
        x.tick(2);
        expect.due("groups(0) when ENDED", 0, () -> x.groups(0));
        expect.noIndex("group when ENDED", () -> x.group(0, 0, 0, 0));
        expect.noIndex("counted when ENDED", () -> x.counted(0, 0, 0, 0));
        expect.noIndex("best when ENDED", () -> x.best(0, 3, 0, 0, 0));
    }

    private static void eachInAGroupOfItsOwn(Expect expect) {
        GroupCursors x = new GroupCursors();
        for (int i = 0; i < 300; i++) {
            x.add(-1 - i, i, -i);
        }
        x.commit();
        x.view();
        expect.due("groups(0)", 300, () -> x.groups(0));
        expect.due("group(0, 0, 0, 299)", -1, () -> x.group(0, 0, 0, 299));
        expect.due("group(0, 1, 0, 299)", -300, () -> x.group(0, 1, 0, 299));
        expect.due("counted(0, 1, 0, 150)", 1, () -> x.counted(0, 1, 0, 150));
        expect.noIndex("group 300", () -> x.group(0, 0, 0, 300));
    }

    public static void main(String[] args) {
        Expect expect = new Expect();
        inOrder(expect);
        wrongOnes(expect);
        whenHeldAndEnded(expect);
        eachInAGroupOfItsOwn(expect);
        expect.done();
    }
}
