/** Promises 8 (view), 9 (letGo), 10 (state), 11 (size). */
public final class ViewsTest {
    private static GroupCursors withObjects(int many) {
        GroupCursors x = new GroupCursors();
        for (int i = 0; i < many; i++) {
            x.add(i % 2, i, i);
        }
        x.commit();
        return x;
    }

    private static void fullOfViews(Expect expect) {
        GroupCursors x = withObjects(1);
        for (int i = 0; i < 30; i++) {
            expect.due("view number " + i, i, () -> x.view());
        }
        expect.due("view() when full", GroupCursors.FULL, () -> x.view());
        expect.noIndex("state(30) when full", () -> x.state(30));
        expect.due("segment(0, 2)", 30, () -> x.segment(0, 2));
        expect.due("letGo(29)", 0, () -> x.letGo(29));
        expect.due("ENDED ones still count: view()", GroupCursors.FULL, () -> x.view());
        expect.due("told(6)", 30, () -> x.told(6));
        expect.due("told(7)", 29, () -> x.told(7));
    }

    private static void hasWhatItHad(Expect expect) {
        GroupCursors x = withObjects(3);
        x.add(7, 7, 7);
        x.drop(1);
        x.view();
        expect.due("size(0): not the NEW, not the DROPPED", 2, () -> x.size(0));
        x.drop(0);
        x.drop(2);
        x.commit();
        x.merge(100);
        expect.due("size(0) whatever comes", 2, () -> x.size(0));
        expect.due("hit(0, 0, 0, 0)", 0, () -> x.hit(0, 0, 0, 0));
        expect.due("hit(0, 0, 0, 1)", 2, () -> x.hit(0, 0, 0, 1));
        x.view();
        expect.due("size(1)", 1, () -> x.size(1));
        expect.due("hit(1, 0, 0, 0)", 3, () -> x.hit(1, 0, 0, 0));
        x.letGo(0);
        expect.due("size(0) when ENDED", 0, () -> x.size(0));
        expect.noIndex("size(2)", () -> x.size(2));
        expect.noIndex("size(-1)", () -> x.size(-1));
    }

    private static void endsAtOnce(Expect expect) {
        GroupCursors x = withObjects(2);
        x.view();
        x.view();
        x.drop(0);
        x.drop(1);
        expect.due("segment(0, 1)", 1, () -> x.segment(0, 1));
        expect.due("state(0)", 0, () -> x.state(0));
        expect.due("letGo(0): the other view sees it", 0, () -> x.letGo(0));
        expect.due("state(0) then", 2, () -> x.state(0));
        expect.badState("letGo(0) again", () -> x.letGo(0));
        expect.due("letGo(1)", 1, () -> x.letGo(1));
        expect.due("told(5)", 1, () -> x.told(5));
        expect.noIndex("letGo(2)", () -> x.letGo(2));
        expect.noIndex("letGo(-1)", () -> x.letGo(-1));
        expect.noIndex("state(2)", () -> x.state(2));
        expect.noIndex("state(-1)", () -> x.state(-1));
    }

    private static void isHeld(Expect expect) {
        GroupCursors x = withObjects(3);
        x.view();
        x.cursor(0, 0, 0, 1, 0, 5);
        x.iterator(0, 0, 0, -1);
        x.drop(0);
        x.drop(1);
        x.drop(2);
        expect.due("letGo(0)", 0, () -> x.letGo(0));
        expect.due("state(0)", 1, () -> x.state(0));
        expect.due("size(0) while HELD", 3, () -> x.size(0));
        expect.due("told(7)", 1, () -> x.told(7));
        expect.badState("letGo(0) while HELD", () -> x.letGo(0));
        expect.due("close(1)", 0, () -> x.close(1));
        expect.due("state(0) while the cursor goes on", 1, () -> x.state(0));
        expect.due("hit while HELD", 2, () -> x.hit(0, 1, 0, 0));
        expect.due("close(0)", 1, () -> x.close(0));
        expect.due("state(0) at last", 2, () -> x.state(0));
        expect.due("told(7) at last", 0, () -> x.told(7));
    }

    private static void emptyView(Expect expect) {
        GroupCursors x = new GroupCursors();
        expect.due("view() of nothing", 0, () -> x.view());
        expect.due("size(0)", 0, () -> x.size(0));
        expect.due("state(0)", 0, () -> x.state(0));
        expect.due("groups(0)", 0, () -> x.groups(0));
        x.add(1, 1, 1);
        x.commit();
        expect.due("segment(0, 2)", 0, () -> x.segment(0, 2));
        expect.due("letGo(0)", 0, () -> x.letGo(0));
        expect.due("state(0) then", 2, () -> x.state(0));
    }

    private static void severalAreFreedAtOnce(Expect expect) {
        GroupCursors x = new GroupCursors();
        for (int i = 0; i < 5; i++) {
            x.add(i, i, i);
            x.commit();
        }
        x.view();
        x.merge(2);
        x.view();
        expect.due("told(4)", 5, () -> x.told(4));
        expect.due("letGo(0) frees the merged ones", 5, () -> x.letGo(0));
        expect.due("segment(5, 1)", 0, () -> x.segment(5, 1));
        expect.due("letGo(1) frees no LIVE one", 0, () -> x.letGo(1));
    }

    public static void main(String[] args) {
        Expect expect = new Expect();
        fullOfViews(expect);
        hasWhatItHad(expect);
        endsAtOnce(expect);
        isHeld(expect);
        emptyView(expect);
        severalAreFreedAtOnce(expect);
        expect.done();
    }
}
