/** Promises 1 (a new object), 2 (add), 3 (drop), 6 (object). */
public final class ObjectsTest {
    private static void newObject(Expect expect) {
        GroupCursors x = new GroupCursors();
        for (int what = 0; what <= 11; what++) {
            int asked = what;
            expect.due("new: told(" + what + ")", 0, () -> x.told(asked));
        }
        expect.noIndex("new: drop(0)", () -> x.drop(0) ? 1 : 0);
        expect.noIndex("new: object(0, 0)", () -> x.object(0, 0));
        expect.noIndex("new: segment(0, 0)", () -> x.segment(0, 0));
        expect.noIndex("new: state(0)", () -> x.state(0));
        expect.noIndex("new: size(0)", () -> x.size(0));
        expect.noIndex("new: groups(0)", () -> x.groups(0));
        expect.noIndex("new: hit(0, 0, 0, 0)", () -> x.hit(0, 0, 0, 0));
        expect.noIndex("new: left(0)", () -> x.left(0));
        expect.noIndex("new: close(0)", () -> x.close(0));
        expect.noIndex("new: page(0)", () -> x.page(0));
        expect.due("new: commit()", 0, () -> x.commit());
        expect.due("new: merge(1000)", 0, () -> x.merge(1000));
    }

    private static void addTillFull(Expect expect) {
        GroupCursors x = new GroupCursors();
        for (int i = 0; i < 300; i++) {
            int number = i;
            expect.due("add number " + i, i, () -> x.add(number % 7, -number, 5L * number));
        }
        expect.due("add the 301st", GroupCursors.FULL, () -> x.add(1, 2, 3));
        expect.due("told(0)", 300, () -> x.told(0));
        expect.due("group of the last", 299 % 7, () -> x.object(299, 0));
        expect.due("key of the last", -299, () -> x.object(299, 1));
        expect.due("sort of the last", 5 * 299, () -> x.object(299, 2));
        expect.noIndex("object(300, 0)", () -> x.object(300, 0));
        expect.due("commit()", 300, () -> x.commit());
        expect.due("add when full", GroupCursors.FULL, () -> x.add(1, 2, 3));
    }

    private static void objectOf(Expect expect) {
        GroupCursors x = new GroupCursors();
        x.add(Long.MIN_VALUE, Long.MAX_VALUE, -1);
        x.add(8, 9, 10);
        expect.due("group", Long.MIN_VALUE, () -> x.object(0, 0));
        expect.due("key", Long.MAX_VALUE, () -> x.object(0, 1));
        expect.due("sort", -1, () -> x.object(0, 2));
        expect.due("group of the second", 8, () -> x.object(1, 0));
        expect.due("segment while new", -1, () -> x.object(0, 3));
        expect.due("dropped", 0, () -> x.object(0, 4));
        expect.noIndex("object(0, 5)", () -> x.object(0, 5));
        expect.noIndex("object(0, -1)", () -> x.object(0, -1));
        expect.noIndex("object(-1, 0)", () -> x.object(-1, 0));
        expect.noIndex("object(2, 0)", () -> x.object(2, 0));
        expect.noIndex("object(MAX, MAX)", () -> x.object(Integer.MAX_VALUE, Integer.MAX_VALUE));
        expect.noIndex("object(MIN, 0)", () -> x.object(Integer.MIN_VALUE, 0));
    }

    private static void dropping(Expect expect) {
        GroupCursors x = new GroupCursors();
        x.add(1, 1, 1);
        x.add(1, 2, 2);
        x.add(1, 3, 3);
        expect.dueTruth("drop(0) while new", true, () -> x.drop(0));
        expect.dueTruth("drop(0) again", false, () -> x.drop(0));
        expect.due("told(1)", 2, () -> x.told(1));
        expect.due("commit()", 2, () -> x.commit());
        expect.due("segment of one dropped while new", -1, () -> x.object(0, 3));
        expect.due("dropped", 1, () -> x.object(0, 4));
        expect.due("told(1) then", 0, () -> x.told(1));
        expect.dueTruth("drop(1)", true, () -> x.drop(1));
        expect.dueTruth("drop(1) again", false, () -> x.drop(1));
        expect.due("segment(0, 0)", 1, () -> x.segment(0, 0));
        x.add(1, 4, 4);
        x.commit();
        x.merge(5);
        expect.due("segment of the dropped one stays", 0, () -> x.object(1, 3));
        expect.due("segment of the other is the merged one", 2, () -> x.object(2, 3));
        expect.due("group of a dropped one", 1, () -> x.object(1, 0));
        expect.noIndex("drop(-1)", () -> x.drop(-1) ? 1 : 0);
        expect.noIndex("drop(4)", () -> x.drop(4) ? 1 : 0);
        expect.due("told(0)", 4, () -> x.told(0));
    }

    public static void main(String[] args) {
        Expect expect = new Expect();
        newObject(expect);
        addTillFull(expect);
        objectOf(expect);
        dropping(expect);
        expect.done();
    }
}
