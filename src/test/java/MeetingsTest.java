/** Points where several sentences of the document meet: what is DROPPED and merged, let go and read, empty and not ended. */
public final class MeetingsTest {
    private static final Expect EXPECT = new Expect();

    private static Run run(String sentence) {
        return new Run(EXPECT, sentence);
    }

    private static void droppedWhileNew() {
        Run r = run("DROPPED while NEW: -1, whatever comes").adds(3).due("drop(1)", true).due("object(1, 3)", -1).due("told(1)", 2);
        r.due("commit()", 2).due("object(1, 3)", -1).due("object(1, 4)", 1).due("segment(0, 0)", 2);
        r.same("drop(1)", false).same("commit()", 0);
        r.segments(1).due("merge(9)", 3).due("object(1, 3)", -1).due("segment(2, 0)", 3);
        r.due("view()", 0).due("size(0)", 3).due("place(0, 0, 0, 1)", -1).same("drop(1)", false).due("object(1, 3)", -1);
        run("all are DROPPED while NEW: no SEGMENT comes, not later either").adds(2).make("drop(0)", "drop(1)").same("commit()", 0)
            .adds(1).due("commit()", 1).due("object(0, 3)", -1).due("object(1, 3)", -1).due("object(2, 3)", 0);
    }

    private static void droppedThenMerged() {
        Run r = run("the SEGMENT in which it was when it was DROPPED").segments(2, 2).make("view()", "drop(0)").due("object(0, 3)", 0);
        r.due("merge(3)", 3).due("object(0, 3)", 0).due("object(1, 3)", 2).due("segment(2, 0)", 3).due("segment(0, 1)", 1);
        r.due("size(0)", 4).due("place(0, 0, 0, 0)", 0).due("view()", 1).due("size(1)", 3).due("place(1, 0, 0, 0)", -1);
        r.make("drop(3)").due("object(3, 3)", 2).segments(1).due("merge(9)", 3).due("object(3, 3)", 2).due("object(0, 3)", 0)
            .due("object(1, 3)", 4).due("segment(2, 0)", 0).due("segment(2, 1)", 1);
        r.due("letGo(0)", 2).due("segment(0, 1)", 2).due("object(0, 3)", 0).due("letGo(1)", 1).due("segment(2, 1)", 2)
            .due("object(3, 3)", 2);
        run("the last one of a SEGMENT is DROPPED: it is merged no more").segments(1, 1, 1).make("drop(1)").due("merge(2)", 2)
            .due("object(1, 3)", 1).due("segment(1, 1)", 2).due("segment(3, 0)", 2);
    }

    private static void dueSeen(Run r, int... watchers) {
        r.due("told(2)", watchers.length);
        for (int i = 0; i < watchers.length; i++) {
            r.due("segment(" + i + ", 2)", watchers[i]);
        }
    }

    private static void dueHas(Run r, int... objects) {
        r.due("size(0)", objects.length);
        for (int k = 0; k < objects.length; k++) {
            r.due("hit(0, 0, 0, " + k + ")", objects[k]);
        }
    }

    /** Segments 0 and 1 have the objects 0, 1 and 2; after each change view 0 has these three and sees these two alone. */
    private static void whatAViewHasAndSees() {
        Run r = run("and has them whatever comes later; it SEES the SEGMENTS in which these are then").segments(2, 1).make("view()");
        dueSeen(r, 1, 1);
        dueHas(r, 0, 1, 2);
        r.make("drop(2)");
        dueSeen(r, 1, 1);
        dueHas(r, 0, 1, 2);
        r.make("view()");
        dueSeen(r, 2, 1);
        r.segments(1);
        dueSeen(r, 2, 1, 0);
        dueHas(r, 0, 1, 2);
        r.due("merge(9)", 3);
        dueSeen(r, 2, 1, 0, 0);
        dueHas(r, 0, 1, 2);
        r.make("view()");
        dueSeen(r, 2, 1, 0, 1);
        r.make("drop(0)", "drop(1)", "drop(3)");
        dueSeen(r, 2, 1, 0, 1);
        dueHas(r, 0, 1, 2);
        r.due("letGo(1)", 0);
        dueSeen(r, 1, 1, 0, 1);
        r.due("letGo(0)", 2);
        dueSeen(r, 0, 0, 0, 1);
        dueHas(r);
        r.due("letGo(2)", 1);
        dueSeen(r, 0, 0, 0, 0);
    }

    /**
     * View 0 sees the SEGMENTS 0, 1 and 2, of which 0 and 1 are merged and 2 is LIVE; it is let go while the CURSOR 0 (END 2)
     * and the ITERATOR 1 (of two objects) go on.
     */
    private static Run letGoWhileRead(String sentence) {
        return run(sentence).segments(1, 1, 3).make("view()", "cursor(0, 0, 0, 1, 0, 2)", "iterator(0, 0, 0, 0)").due("merge(2)", 2)
            .due("told(4)", 2).due("letGo(0)", 0).due("state(0)", 1).due("told(4)", 2).due("left(0)", 5).due("left(1)", 2);
    }

    private static void dueEnded(Run r) {
        r.due("state(0)", 2).due("size(0)", 0).due("told(4)", 0).due("told(5)", 2).due("told(7)", 0).due("told(9)", 0)
            .due("segment(2, 1)", 0).due("segment(2, 2)", 0).due("left(0)", -1).due("left(1)", -1);
        r.same("close(0)", 0).same("close(1)", 0).same("take(0, 1)", -1).same("next(1)", Run.ELEMENT).same("letGo(0)", Run.STATE);
    }

    private static void dueHeld(Run r) {
        r.due("state(0)", 1).due("size(0)", 5).due("told(4)", 2).due("told(5)", 0).due("told(7)", 1).due("segment(2, 2)", 1);
    }

    private static void eachWayInWhichTheLastReaderEnds() {
        Run byClose = letGoWhileRead("close() of the first, close() of the last").due("close(0)", 0);
        dueHeld(byClose);
        dueEnded(byClose.same("close(0)", 0).due("close(1)", 2));
        Run byCloseOfTheCursor = letGoWhileRead("close() of the iterator, then of the cursor").due("close(1)", 0);
        dueHeld(byCloseOfTheCursor);
        dueEnded(byCloseOfTheCursor.due("close(0)", 2));
        Run byNext = letGoWhileRead("close() of the cursor, next() is the last").due("close(0)", 0).due("next(1)", 0);
        dueHeld(byNext);
        dueEnded(byNext.due("next(1)", 3));
        Run byTick = letGoWhileRead("next() to the last, tick() ends the cursor").due("next(1)", 0).due("next(1)", 3).due("left(1)", -1);
        dueHeld(byTick.due("tick(2)", 0));
        dueEnded(byTick.due("tick(1)", 1));
        Run tickFirst = letGoWhileRead("tick() ends the cursor, next() is the last").due("tick(3)", 1).due("left(0)", -1);
        dueHeld(tickFirst.due("next(1)", 0));
        dueEnded(tickFirst.due("next(1)", 3));
        Run tickThenClose = letGoWhileRead("tick() ends the cursor, close() the iterator").due("tick(3)", 1);
        dueHeld(tickThenClose);
        dueEnded(tickThenClose.due("close(1)", 2));
        Run letGoIsLast = run("all READERS have ended: letGo() answers the FREED ones").segments(1, 1, 3)
            .make("view()", "cursor(0, 0, 0, 1, 0, 2)", "iterator(0, 0, 0, 0)", "merge(2)", "next(1)", "next(1)", "tick(3)");
        letGoIsLast.due("state(0)", 0).due("told(4)", 2);
        dueEnded(letGoIsLast.due("letGo(0)", 2));
    }

    /** Two views see segment 0, one of them segment 1 too: FREED by the end of one is what the other does not see. */
    private static void freedByThat() {
        String[] lastEnds = {"close(0)", "tick(2)"};
        for (String last : lastEnds) {
            Run r = run("FREED by that, while another VIEW is HELD: " + last).segments(1).make("view()").segments(1)
                .make("view()", "cursor(0, 0, 0, 1, 0, 1)", "iterator(1, 0, 0, 0)", "merge(9)").due("told(4)", 2).due("letGo(0)", 0)
                .due("letGo(1)", 0).due("state(0)", 1).due("state(1)", 1);
            r.due(last, last.startsWith("tick") ? 1 : 0).due("state(0)", 2).due("told(4)", 2).due("segment(0, 2)", 1);
            r.due("next(1)", 0).due("state(1)", 2).due("told(4)", 0).due("told(5)", 2).due("told(3)", 1);
        }
        run("one tick() ends the READERS of two VIEWS").segments(1).make("view()").segments(1).make("view()",
            "cursor(0, 0, 0, 1, 0, 1)", "cursor(1, 0, 0, 1, 0, 1)", "cursor(1, 0, 0, 1, 0, 1)", "letGo(0)", "letGo(1)", "merge(9)")
            .due("told(4)", 2).due("tick(2)", 3).due("state(0)", 2).due("state(1)", 2).due("told(4)", 0).due("told(5)", 2);
        run("what is FREED by drop() or merge() is not FREED by letGo()").segments(1, 1, 1).make("drop(0)", "view()", "letGo(0)",
            "merge(9)").due("told(5)", 3).make("view()").due("letGo(1)", 0);
        run("a LIVE one that is DROPPED later is not FREED by letGo()").segments(1).make("view()").due("letGo(0)", 0).make("drop(0)")
            .due("segment(0, 1)", 2);
    }

    private static void emptyCursorGoesOn(Run r, int page) {
        r.due("left(0)", 0).due("told(9)", 1).due("told(11)", page).due("take(0, 50)", 0).due("told(11)", 0).due("left(0)", 0);
        r.same("next(0)", Run.ARGUMENT).same("page(0)", Run.INDEX);
        r.due("letGo(0)", 0).due("state(0)", 1).due("tick(3)", 0).due("take(0, 1)", 0).due("tick(3)", 0).due("left(0)", 0)
            .due("state(0)", 1).due("tick(1)", 1).due("left(0)", -1).due("state(0)", 2).same("take(0, 1)", -1);
    }

    private static void emptyCursors() {
        emptyCursorGoesOn(run("a CURSOR that has no HITS left").segments(2).make("view()", "cursor(0, 0, 0, 1, 0, 3)")
            .due("take(0, 2)", 2), 2);
        emptyCursorGoesOn(run("a CURSOR of a VIEW that has nothing").make("view()", "cursor(0, 0, 0, 1, 0, 3)"), 0);
        emptyCursorGoesOn(run("a CURSOR whose slice has nothing: the MIX of the KEY 0 by the seed 0 is 0")
            .make("add(1, 0, 1)", "commit()", "view()", "cursor(0, 2, 5, 8, 7, 3)"), 0);
        run("a CURSOR of none is closed: FREED by that").make("add(1, 0, 1)", "commit()", "view()", "cursor(0, 0, 0, 2, 1, 9)", "drop(0)")
            .due("letGo(0)", 0).due("left(0)", 0).due("segment(0, 1)", 1).due("close(0)", 1).due("segment(0, 1)", 2).due("left(0)", -1);
    }

    private static void emptyIterators() {
        Run r = run("an ITERATOR that has none ends at once").make("view()").segments(1).due("iterator(0, 1, 0, -1)", 0);
        r.due("told(8)", 1).due("told(9)", 0).due("left(0)", -1).due("state(0)", 0);
        r.same("next(0)", Run.ELEMENT).same("take(0, 1)", Run.ARGUMENT).same("close(0)", 0).same("tick(0)", 0);
        r.due("iterator(0, 2, 9, -1)", 1).due("letGo(0)", 0).due("state(0)", 2);
        run("an ITERATOR of a VIEW whose objects are DROPPED has them").segments(1).make("view()", "drop(0)")
            .due("iterator(0, 0, 0, -1)", 0).due("left(0)", 1).due("iterator(0, 0, 0, 0)", 1).due("next(1)", 0).due("next(0)", 0)
            .due("left(0)", -1).due("letGo(0)", 1);
    }

    private static void takesBetweenTicks() {
        run("take() between two tick() calls: its END is set anew").segments(3).make("view()", "cursor(0, 0, 0, 1, 0, 2)")
            .due("tick(1)", 0).due("take(0, 1)", 1).due("tick(2)", 0).due("left(0)", 2).due("take(0, 1)", 1).due("tick(2)", 0)
            .due("tick(1)", 1).due("take(0, 1)", -1).due("page(0)", 1);
        run("its END is set anew from NOW, not from the END").segments(3).make("view()", "cursor(0, 0, 0, 1, 0, 5)").due("take(0, 1)", 1)
            .due("take(0, 1)", 1).due("tick(5)", 0).due("tick(1)", 1);
        run("a take() that throws sets no END").segments(3).make("view()", "cursor(0, 0, 0, 1, 0, 2)", "tick(2)")
            .same("take(0, 0)", Run.ARGUMENT).same("take(0, 51)", Run.ARGUMENT).due("tick(1)", 1);
        run("a take() of a CURSOR that has ended sets no END").segments(3).make("view()", "cursor(0, 0, 0, 1, 0, 2)", "tick(3)")
            .same("take(0, 1)", -1).due("left(0)", -1).due("tick(0)", 0).due("told(9)", 0);
    }

    public static void main(String[] args) {
        droppedWhileNew();
        droppedThenMerged();
        whatAViewHasAndSees();
        eachWayInWhichTheLastReaderEnds();
        freedByThat();
        emptyCursors();
        emptyIterators();
        takesBetweenTicks();
        EXPECT.done();
    }
}
