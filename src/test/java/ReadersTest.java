import java.util.NoSuchElementException;

/** Promises 18 (cursor), 19 (iterator), 20 (take), 21 (page), 22 (next), 23 (left), 24 (close). */
public final class ReadersTest {
    private static GroupCursors withObjects(int many) {
        GroupCursors x = new GroupCursors();
        for (int i = 0; i < many; i++) {
            x.add(i % 3, i * 31L - 7, i);
        }
        x.commit();
        x.view();
        return x;
    }

    private static void noElement(Expect expect, String call, Expect.Call made) {
        expect.fails(call, NoSuchElementException.class, made);
    }

    private static long mixedByZero(long key) {
        long z = key;
        z = (z ^ (z >>> 30)) * 0xBF58476D1CE4E5B9L;
        z = (z ^ (z >>> 27)) * 0x94D049BB133111EBL;
        return z ^ (z >>> 31);
    }

    /** Each hit comes in one slice and once, in the ORDER, whatever happens between two takes. */
    private static void slices(Expect expect, int slices) {
        GroupCursors x = withObjects(80);
        int[] givenIn = new int[80];
        for (int slice = 0; slice < slices; slice++) {
            int opened = slice;
            expect.due("cursor of slice " + slice, slice, () -> x.cursor(0, 1, 5, slices, opened, 1000));
        }
        for (int slice = 0; slice < slices; slice++) {
            int before = Integer.MAX_VALUE;
            int taken = x.take(slice, 7);
            for (int round = 0; round < 40 && taken > 0; round++) {
                for (int i = 0; i < taken; i++) {
                    int object = x.page(i);
                    int at = slice;
                    int last = before;
                    givenIn[object]++;
                    expect.dueTruth("object " + object + " comes behind " + last, true, () -> object < last);
                    expect.due("slice of object " + object, at,
                        () -> Long.remainderUnsigned(mixedByZero(x.object(object, 1)), slices));
                    before = object;
                }
                x.drop(round);
                x.add(0, round, round);
                x.commit();
                x.merge(50);
                taken = x.take(slice, 7);
            }
            int reader = slice;
            expect.due("left of slice " + slice, 0, () -> x.left(reader));
        }
        for (int i = 0; i < givenIn.length; i++) {
            int many = givenIn[i];
            expect.due("how often object " + i + " came", 1, () -> many);
        }
    }

    private static void wrongCursors(Expect expect) {
        GroupCursors x = withObjects(4);
        expect.noIndex("cursor of no view", () -> x.cursor(1, 9, 0, 0, 0, 0));
        expect.noIndex("cursor of view -1", () -> x.cursor(-1, 0, 0, 1, 0, 1));
        expect.badArgument("kind 3", () -> x.cursor(0, 3, 0, 1, 0, 1));
        expect.badArgument("kind -1", () -> x.cursor(0, -1, 0, 1, 0, 1));
        expect.badArgument("slices 0", () -> x.cursor(0, 0, 0, 0, 0, 1));
        expect.badArgument("slices 9", () -> x.cursor(0, 0, 0, 9, 0, 1));
        expect.badArgument("slices MIN", () -> x.cursor(0, 0, 0, Integer.MIN_VALUE, 0, 1));
        expect.badArgument("slice -1", () -> x.cursor(0, 0, 0, 2, -1, 1));
        expect.badArgument("slice 2 of 2", () -> x.cursor(0, 0, 0, 2, 2, 1));
        expect.badArgument("keep 0", () -> x.cursor(0, 0, 0, 1, 0, 0));
        expect.badArgument("keep 1001", () -> x.cursor(0, 0, 0, 1, 0, 1001));
        expect.due("none of these came", 0, () -> x.told(8));
        expect.due("the widest", 0, () -> x.cursor(0, 2, Long.MAX_VALUE, 8, 7, 1000));
        x.letGo(0);
        expect.badState("cursor of a HELD view", () -> x.cursor(0, 0, 0, 1, 0, 1));
        expect.badArgument("the argument comes first", () -> x.cursor(0, 0, 0, 1, 0, 0));
        x.close(0);
        expect.badState("cursor of an ENDED view", () -> x.cursor(0, 0, 0, 1, 0, 1));
    }

    private static void wrongIterators(Expect expect) {
        GroupCursors x = withObjects(4);
        expect.noIndex("iterator of no view", () -> x.iterator(1, 9, 0, -1));
        expect.noIndex("group 3", () -> x.iterator(0, 0, 0, 3));
        expect.noIndex("group -2", () -> x.iterator(0, 0, 0, -2));
        expect.noIndex("group MIN", () -> x.iterator(0, 9, 0, Integer.MIN_VALUE));
        expect.noIndex("the group comes before the kind", () -> x.iterator(0, 3, 0, 3));
        expect.badArgument("kind 3 of all", () -> x.iterator(0, 3, 0, -1));
        expect.badArgument("kind -1 of a group", () -> x.iterator(0, -1, 0, 0));
        expect.due("none of these came", 0, () -> x.told(8));
        expect.due("of the last group", 0, () -> x.iterator(0, 0, 0, 2));
        x.letGo(0);
        expect.badState("iterator of a HELD view", () -> x.iterator(0, 0, 0, 0));
        expect.badState("iterator of all of a HELD view", () -> x.iterator(0, 0, 0, -1));
        expect.noIndex("group 3 of a HELD view", () -> x.iterator(0, 0, 0, 3));
        expect.badArgument("kind 3 of a HELD view", () -> x.iterator(0, 3, 0, 0));
        x.close(0);
        expect.badState("iterator of all of an ENDED view", () -> x.iterator(0, 0, 0, -1));
        expect.noIndex("an ENDED view has no group", () -> x.iterator(0, 0, 0, 0));
        expect.badArgument("kind 3 of an ENDED view", () -> x.iterator(0, 3, 0, -1));
    }

    private static void fullOfReaders(Expect expect) {
        GroupCursors x = withObjects(3);
        for (int i = 0; i < 60; i++) {
            int number = i;
            expect.due("reader number " + i, i,
                () -> number % 2 == 0 ? x.cursor(0, 0, 0, 1, 0, 1) : x.iterator(0, 0, 0, -1));
        }
        expect.due("cursor when full", GroupCursors.FULL, () -> x.cursor(0, 0, 0, 1, 0, 1));
        expect.due("iterator when full", GroupCursors.FULL, () -> x.iterator(0, 0, 0, -1));
        expect.due("iterator of a group when full", GroupCursors.FULL, () -> x.iterator(0, 0, 0, 1));
        expect.badArgument("a wrong cursor when full", () -> x.cursor(0, 0, 0, 1, 1, 1));
        expect.noIndex("a wrong iterator when full", () -> x.iterator(0, 0, 0, 3));
        expect.noIndex("left(60) when full", () -> x.left(60));
        expect.due("tick(1) when full", 0, () -> x.tick(1));
        x.close(0);
        expect.due("ended ones still count", GroupCursors.FULL, () -> x.cursor(0, 0, 0, 1, 0, 1));
        expect.due("told(8)", 60, () -> x.told(8));
        expect.due("told(9)", 59, () -> x.told(9));
        x.letGo(0);
        expect.badState("a view that is not OPEN, when full", () -> x.cursor(0, 0, 0, 1, 0, 1));
    }

    private static void taking(Expect expect) {
        GroupCursors x = withObjects(60);
        x.cursor(0, 0, 0, 1, 0, 3);
        x.iterator(0, 0, 0, -1);
        expect.noIndex("take(2, 1)", () -> x.take(2, 1));
        expect.noIndex("take(-1, 0)", () -> x.take(-1, 0));
        expect.badArgument("take(0, 0)", () -> x.take(0, 0));
        expect.badArgument("take(0, 51)", () -> x.take(0, 51));
        expect.badArgument("take(0, MIN)", () -> x.take(0, Integer.MIN_VALUE));
        expect.badArgument("take of an iterator", () -> x.take(1, 1));
        expect.due("left(0): a take that throws gives nothing", 60, () -> x.left(0));
        expect.due("take(0, 50)", 50, () -> x.take(0, 50));
        expect.due("page(49)", 49, () -> x.page(49));
        expect.noIndex("page(50)", () -> x.page(50));
        expect.noIndex("page(-1)", () -> x.page(-1));
        expect.due("told(11)", 50, () -> x.told(11));
        expect.due("left(0)", 10, () -> x.left(0));
        expect.due("take(0, 4)", 4, () -> x.take(0, 4));
        expect.due("page(0)", 50, () -> x.page(0));
        expect.noIndex("page(4): the longer page is gone", () -> x.page(4));
        expect.due("take(0, 50) of 6", 6, () -> x.take(0, 50));
        expect.due("page(5)", 59, () -> x.page(5));
        x.close(0);
        expect.due("take of an ended one", -1, () -> x.take(0, 1));
        expect.badArgument("take(0, 0) of an ended one", () -> x.take(0, 0));
        expect.due("the page stays", 59, () -> x.page(5));
        expect.due("told(11): the page stays", 6, () -> x.told(11));
        expect.due("told(9)", 1, () -> x.told(9));
    }

    private static void emptiedCursor(Expect expect) {
        GroupCursors x = withObjects(2);
        x.cursor(0, 0, 0, 1, 0, 3);
        x.take(0, 50);
        x.letGo(0);
        expect.due("left(0): it has not ended", 0, () -> x.left(0));
        expect.due("state(0)", 1, () -> x.state(0));
        expect.due("take(0, 1) of none", 0, () -> x.take(0, 1));
        expect.due("told(11): the page is empty", 0, () -> x.told(11));
        expect.noIndex("page(0)", () -> x.page(0));
    }

    private static void iterating(Expect expect) {
        GroupCursors x = withObjects(7);
        x.iterator(0, 1, 0, 0);
        x.cursor(0, 0, 0, 1, 0, 1);
        expect.due("left(0)", 3, () -> x.left(0));
        expect.due("next(0)", 6, () -> x.next(0));
        x.drop(3);
        x.letGo(0);
        expect.due("next(0), dropped meanwhile", 3, () -> x.next(0));
        expect.due("left(0) then", 1, () -> x.left(0));
        expect.due("told(9)", 2, () -> x.told(9));
        expect.due("next(0), the last", 0, () -> x.next(0));
        expect.due("told(9) then", 1, () -> x.told(9));
        expect.due("left(0) at last", -1, () -> x.left(0));
        noElement(expect, "next(0) when it has ended", () -> x.next(0));
        expect.badArgument("next of a cursor", () -> x.next(1));
        x.close(1);
        expect.badArgument("next of an ended cursor", () -> x.next(1));
        expect.noIndex("next(2)", () -> x.next(2));
        expect.noIndex("next(-1)", () -> x.next(-1));
        expect.noIndex("left(2)", () -> x.left(2));
        expect.noIndex("left(-1)", () -> x.left(-1));
        expect.noIndex("close(2)", () -> x.close(2));
        expect.noIndex("close(-1)", () -> x.close(-1));
        expect.badArgument("take of an ended iterator", () -> x.take(0, 1));
    }

    private static void iteratorOfNothing(Expect expect) {
        GroupCursors x = new GroupCursors();
        x.view();
        expect.due("iterator of nothing", 0, () -> x.iterator(0, 0, 0, -1));
        expect.due("left(0): it ends at once", -1, () -> x.left(0));
        noElement(expect, "next(0)", () -> x.next(0));
        expect.due("close(0)", 0, () -> x.close(0));
        expect.due("told(8)", 1, () -> x.told(8));
        expect.due("told(9)", 0, () -> x.told(9));
        expect.due("state(0)", 0, () -> x.state(0));
        expect.due("cursor of nothing", 1, () -> x.cursor(0, 0, 0, 1, 0, 1));
        expect.due("left(1): a cursor does not", 0, () -> x.left(1));
    }

    private static void closing(Expect expect) {
        GroupCursors x = withObjects(3);
        x.iterator(0, 0, 0, -1);
        x.iterator(0, 0, 0, -1);
        x.cursor(0, 0, 0, 1, 0, 1);
        for (int i = 0; i < 3; i++) {
            x.drop(i);
        }
        expect.due("close(0) of an OPEN view", 0, () -> x.close(0));
        expect.due("close(0) again", 0, () -> x.close(0));
        noElement(expect, "next(0)", () -> x.next(0));
        expect.due("left(0)", -1, () -> x.left(0));
        x.letGo(0);
        expect.due("close(2) while another goes on", 0, () -> x.close(2));
        expect.due("close(1), the last", 1, () -> x.close(1));
        expect.due("close(1) again", 0, () -> x.close(1));
        expect.due("state(0)", 2, () -> x.state(0));
    }

    public static void main(String[] args) {
        Expect expect = new Expect();
        for (int many = 1; many <= 8; many++) {
            slices(expect, many);
        }
        wrongCursors(expect);
        wrongIterators(expect);
        fullOfReaders(expect);
        taking(expect);
        emptiedCursor(expect);
        iterating(expect);
        iteratorOfNothing(expect);
        closing(expect);
        expect.done();
    }
}
