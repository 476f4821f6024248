/** Promises 4 (commit), 5 (merge), 7 (segment). */
public final class SegmentsTest {
    private static void addSome(GroupCursors x, int many) {
        for (int i = 0; i < many; i++) {
            x.add(i, i, i);
        }
    }

    /** A SEGMENT for each of the sizes. */
    private static GroupCursors withSegments(int... sizes) {
        GroupCursors x = new GroupCursors();
        for (int size : sizes) {
            addSome(x, size);
            x.commit();
        }
        return x;
    }

    private static void committing(Expect expect) {
        GroupCursors x = new GroupCursors();
        addSome(x, 3);
        x.drop(1);
        expect.due("commit()", 2, () -> x.commit());
        expect.due("commit() again", 0, () -> x.commit());
        expect.due("told(2)", 1, () -> x.told(2));
        expect.due("object(0, 3)", 0, () -> x.object(0, 3));
        expect.due("object(1, 3)", -1, () -> x.object(1, 3));
        addSome(x, 1);
        x.drop(3);
        expect.due("commit() of dropped ones alone", 0, () -> x.commit());
        expect.due("told(2) then", 1, () -> x.told(2));
    }

    private static void fullOfSegments(Expect expect) {
        GroupCursors x = new GroupCursors();
        for (int i = 0; i < 40; i++) {
            addSome(x, 1);
            expect.due("commit number " + i, 1, () -> x.commit());
        }
        expect.due("commit() of nothing when full", 0, () -> x.commit());
        addSome(x, 1);
        expect.due("commit() when full", GroupCursors.FULL, () -> x.commit());
        expect.due("told(1): it is NEW yet", 1, () -> x.told(1));
        expect.due("object(40, 3)", -1, () -> x.object(40, 3));
        expect.due("merge(2) when full", GroupCursors.FULL, () -> x.merge(2));
        expect.due("merge(1) when full", 0, () -> x.merge(1));
        expect.due("object(39, 3)", 39, () -> x.object(39, 3));
        expect.due("told(2)", 40, () -> x.told(2));
        expect.due("told(3)", 40, () -> x.told(3));
        x.drop(0);
        expect.due("FREED ones still count: commit()", GroupCursors.FULL, () -> x.commit());
    }

    private static void merging(Expect expect) {
        GroupCursors x = withSegments(1, 3, 2, 5);
        expect.due("merge(-5)", 0, () -> x.merge(-5));
        expect.due("merge(MIN)", 0, () -> x.merge(Integer.MIN_VALUE));
        expect.due("merge(0)", 0, () -> x.merge(0));
        expect.due("merge(1)", 0, () -> x.merge(1));
        expect.due("merge(2): one alone", 0, () -> x.merge(2));
        expect.due("told(2): nothing changed", 4, () -> x.told(2));
        expect.due("merge(3): sizes 1 and 2", 3, () -> x.merge(3));
        expect.due("segment(4, 0)", 3, () -> x.segment(4, 0));
        expect.due("segment(0, 0)", 0, () -> x.segment(0, 0));
        expect.due("segment(0, 1): no view sees it", 2, () -> x.segment(0, 1));
        expect.due("segment(1, 1)", 0, () -> x.segment(1, 1));
        expect.due("object(0, 3)", 4, () -> x.object(0, 3));
        expect.due("object(1, 3)", 1, () -> x.object(1, 3));
        expect.due("object(4, 3)", 4, () -> x.object(4, 3));
        expect.due("object(6, 3)", 3, () -> x.object(6, 3));
        expect.due("merge(MAX)", 11, () -> x.merge(Integer.MAX_VALUE));
        expect.due("merge(MAX) again: one alone", 0, () -> x.merge(Integer.MAX_VALUE));
        expect.due("told(5)", 5, () -> x.told(5));
    }

    private static void mergingWithoutDroppedOnes(Expect expect) {
        GroupCursors x = withSegments(3, 3, 1);
        x.drop(0);
        x.drop(1);
        x.drop(6);
        x.add(9, 9, 9);
        expect.due("merge(3): the dropped do not count, the third is not LIVE", 0, () -> x.merge(3));
        expect.due("merge(4)", 4, () -> x.merge(4));
        expect.due("object(0, 3)", 0, () -> x.object(0, 3));
        expect.due("object(2, 3)", 3, () -> x.object(2, 3));
        expect.due("object(6, 3)", 2, () -> x.object(6, 3));
        expect.due("object(7, 3): NEW ones stay", -1, () -> x.object(7, 3));
        expect.due("told(1)", 1, () -> x.told(1));
    }

    private static void segmentOf(Expect expect) {
        GroupCursors x = withSegments(2, 1);
        x.view();
        x.view();
        expect.due("segment(0, 0)", 2, () -> x.segment(0, 0));
        expect.due("segment(0, 1)", 0, () -> x.segment(0, 1));
        expect.due("segment(0, 2)", 2, () -> x.segment(0, 2));
        x.drop(2);
        expect.due("segment(1, 1): KEPT", 1, () -> x.segment(1, 1));
        x.view();
        expect.due("segment(1, 2): a view opened now does not see it", 2, () -> x.segment(1, 2));
        expect.due("segment(0, 2)", 3, () -> x.segment(0, 2));
        expect.due("letGo(0)", 0, () -> x.letGo(0));
        expect.due("segment(1, 2) then", 1, () -> x.segment(1, 2));
        expect.due("letGo(1)", 1, () -> x.letGo(1));
        expect.due("segment(1, 1): FREED", 2, () -> x.segment(1, 1));
        expect.due("segment(0, 1): LIVE", 0, () -> x.segment(0, 1));
        expect.noIndex("segment(2, 0)", () -> x.segment(2, 0));
        expect.noIndex("segment(-1, 0)", () -> x.segment(-1, 0));
        expect.noIndex("segment(0, 3)", () -> x.segment(0, 3));
        expect.noIndex("segment(0, -1)", () -> x.segment(0, -1));
    }

    public static void main(String[] args) {
        Expect expect = new Expect();
        committing(expect);
        fullOfSegments(expect);
        merging(expect);
        mergingWithoutDroppedOnes(expect);
        segmentOf(expect);
        expect.done();
    }
}
