/** The boundary cases that "What it is" and "Terms" name, sentence by sentence. */
public final class TermsBoundsTest {
    private static final Expect EXPECT = new Expect();

    private static Run run(String sentence) {
        return new Run(EXPECT, sentence);
    }

    private static void fiveHundredAndTwelveCalls() {
        Run r = run("An object is used for at most 512 calls");
        for (int i = 0; i < 300; i++) {
            r.due("add(" + i + ", " + i + ", " + -i + ")", i);
        }
        r.due("commit()", 300);
        for (int i = 0; i < 30; i++) {
            r.due("view()", i);
        }
        for (int i = 0; i < 60; i++) {
            r.due("cursor(" + i / 2 + ", 2, " + i + ", 1, 0, 1000)", i);
        }
        for (int i = 0; i < 60; i++) {
            r.due("take(" + i + ", 50)", 50).due("left(" + i + ")", 250);
        }
        r.due("told(9)", 60);
        EXPECT.due("calls of the longest run", 512, () -> r.calls());
    }

    private static void objectsAreNumbered() {
        Run r = run("OBJECTS are numbered as they come, 300 at most");
        r.due("add(0, 0, 0)", 0).due("drop(0)", true).due("add(0, 0, 0)", 1);
        for (int i = 2; i < 300; i++) {
            r.due("add(0, 0, 0)", i);
        }
        r.same("add(0, 0, 0)", Run.FULL);
        r.make("drop(299)");
        r.same("add(0, 0, 0)", Run.FULL);
        r.make("commit()");
        r.same("add(MIN, MAX, 0)", Run.FULL);
        r.due("told(0)", 300);
    }

    private static void newTillCommit() {
        run("One is NEW till commit(), then it is in a SEGMENT").make("view()", "add(1, 1, 1)", "view()", "merge(9)")
            .due("told(1)", 1).due("object(0, 3)", -1).due("size(1)", 0).due("commit()", 1)
            .due("told(1)", 0).due("object(0, 3)", 0);
    }

    private static void segmentsAreNumbered() {
        run("SEGMENTS are numbered as they are made").segments(1, 1).due("merge(9)", 2).due("object(0, 3)", 2)
            .segments(1).due("object(2, 3)", 3).due("merge(9)", 3).due("object(2, 3)", 4).due("told(2)", 5);
        Run byCommit = run("40 SEGMENTS at most, the last by commit()");
        for (int i = 0; i < 40; i++) {
            byCommit.adds(1).due("commit()", 1).due("object(" + i + ", 3)", i);
        }
        byCommit.adds(1).same("commit()", Run.FULL).same("merge(MAX)", Run.FULL).due("told(2)", 40);
        Run byMerge = run("40 SEGMENTS at most, the last by merge()");
        for (int i = 0; i < 39; i++) {
            byMerge.segments(1);
        }
        byMerge.due("merge(2)", 39).due("object(0, 3)", 39).due("object(38, 3)", 39).due("told(2)", 40).due("told(5)", 39);
        byMerge.adds(1).same("commit()", Run.FULL).same("merge(MAX)", 0);
    }

    private static void droppedWhileNew() {
        run("one that is DROPPED while NEW never comes into a SEGMENT").adds(2).due("drop(0)", true)
            .due("commit()", 1).due("object(0, 3)", -1).due("segment(0, 0)", 1)
            .segments(1).due("merge(9)", 2).due("object(0, 3)", -1).due("object(0, 4)", 1)
            .due("view()", 0).due("size(0)", 2).due("place(0, 0, 0, 0)", -1);
        run("it may be DROPPED, NEW or not").segments(1).adds(1).due("drop(0)", true).due("drop(1)", true)
            .due("object(0, 3)", 0).due("object(1, 3)", -1);
    }

    private static void viewsAreNumbered() {
        Run r = run("A VIEW (numbered as they are opened, 30 at most)").segments(2);
        for (int i = 0; i < 30; i++) {
            r.due("view()", i);
        }
        r.same("view()", Run.FULL);
        r.make("letGo(0)", "iterator(29, 0, 0, -1)", "letGo(29)").due("state(0)", 2).due("state(29)", 1);
        r.same("view()", Run.FULL).due("told(6)", 30).due("told(7)", 29);
    }

    private static void aViewHas() {
        run("a VIEW has all objects that are in a SEGMENT and not DROPPED: none yet").due("view()", 0).due("size(0)", 0);
        run("a VIEW has not the NEW ones").adds(3).due("view()", 0).due("size(0)", 0).make("commit()").due("size(0)", 0)
            .due("place(0, 0, 0, 0)", -1);
        run("a VIEW has not the DROPPED ones").segments(3).make("drop(0)", "drop(1)", "drop(2)").due("view()", 0).due("size(0)", 0);
        run("a VIEW has all 300").segments(299, 1).due("view()", 0).due("size(0)", 300).due("hit(0, 0, 0, 299)", 299)
            .due("place(0, 1, 0, 0)", 299);
        Run later = run("and has them whatever comes later").segments(2, 1).make("view()");
        String[] changes = {"drop(1)", "add(0, 0, -9)", "commit()", "merge(9)", "drop(0)", "drop(2)", "view()", "letGo(1)",
            "cursor(0, 0, 0, 1, 0, 1)", "letGo(0)", "tick(1)"};
        for (String change : changes) {
            later.make(change).due("size(0)", 3).due("groups(0)", 3).due("hit(0, 0, 0, 0)", 0).due("hit(0, 0, 0, 2)", 2)
                .due("place(0, 1, 0, 1)", 1).due("place(0, 0, 0, 2)", 2).due("group(0, 1, 0, 0)", 2);
        }
    }

    private static void aViewSees() {
        Run r = run("a VIEW SEES the SEGMENTS in which these are then").segments(2, 1, 1).make("drop(0)", "view()");
        r.due("segment(0, 2)", 1).due("segment(1, 2)", 1).due("segment(2, 2)", 1);
        r.due("merge(9)", 3).due("segment(3, 2)", 0).due("segment(0, 2)", 1).due("segment(0, 1)", 1);
        r.due("view()", 1).due("segment(3, 2)", 1).due("segment(0, 2)", 1).due("segment(2, 2)", 1);
        r.segments(1).due("segment(4, 2)", 0);
        run("a VIEW sees no SEGMENT whose objects are all DROPPED").segments(1, 1).make("view()", "drop(0)", "view()")
            .due("segment(0, 2)", 1).due("segment(1, 2)", 2).due("letGo(0)", 1).due("segment(0, 1)", 2);
    }

    private static void heldOrEndedAtOnce() {
        run("(or at once) it is ENDED: no READER").segments(1).make("view()").due("state(0)", 0).due("letGo(0)", 0).due("state(0)", 2);
        run("a READER that was closed holds no VIEW").segments(1).make("view()", "cursor(0, 0, 0, 1, 0, 9)", "close(0)")
            .due("state(0)", 0).due("letGo(0)", 0).due("state(0)", 2);
        run("an ITERATOR that has given its last holds no VIEW").segments(1).make("view()", "iterator(0, 0, 0, -1)", "next(0)")
            .due("state(0)", 0).due("letGo(0)", 0).due("state(0)", 2);
        run("an ITERATOR of none holds no VIEW").make("view()", "iterator(0, 0, 0, -1)").due("letGo(0)", 0).due("state(0)", 2);
        run("a CURSOR above its END holds no VIEW").segments(1).make("view()", "cursor(0, 0, 0, 1, 0, 1)", "tick(2)")
            .due("state(0)", 0).due("letGo(0)", 0).due("state(0)", 2);
        run("a READER of another VIEW holds no VIEW").segments(1).make("view()", "view()", "cursor(1, 0, 0, 1, 0, 9)")
            .due("letGo(0)", 0).due("state(0)", 2).due("letGo(1)", 0).due("state(1)", 1);
    }

    private static void heldAsLongAs() {
        run("it is HELD as long as a READER of it goes on: a CURSOR that has given all")
            .segments(1).make("view()", "cursor(0, 0, 0, 1, 0, 1)", "take(0, 1)", "letGo(0)").due("state(0)", 1)
            .make("take(0, 1)").due("state(0)", 1).due("tick(1)", 0).due("state(0)", 1).due("tick(1)", 1).due("state(0)", 2);
        run("a CURSOR of none holds its VIEW").make("view()", "cursor(0, 0, 0, 8, 7, 1)", "letGo(0)").due("state(0)", 1)
            .due("close(0)", 0).due("state(0)", 2);
        run("an ITERATOR holds its VIEW till its last").segments(2).make("view()", "iterator(0, 0, 0, -1)", "letGo(0)")
            .due("state(0)", 1).due("next(0)", 0).due("state(0)", 1).due("next(0)", 1).due("state(0)", 2);
        run("two READERS: till the later ends").segments(2)
            .make("view()", "cursor(0, 0, 0, 1, 0, 1)", "iterator(0, 0, 0, -1)", "letGo(0)").due("close(1)", 0).due("state(0)", 1)
            .due("close(1)", 0).due("state(0)", 1).due("tick(2)", 1).due("state(0)", 2);
        run("an OPEN VIEW does not end with its last READER").segments(1).make("view()", "iterator(0, 0, 0, -1)", "next(0)")
            .due("state(0)", 0).due("size(0)", 1).due("iterator(0, 0, 0, -1)", 1);
    }

    private static void endedHasNothing() {
        Run held = run("HELD it has and sees them yet").segments(2).make("view()", "cursor(0, 0, 0, 1, 0, 9)", "letGo(0)");
        held.due("state(0)", 1).due("size(0)", 2).due("groups(0)", 2).due("hit(0, 0, 0, 1)", 1).due("place(0, 0, 0, 1)", 1)
            .due("group(0, 0, 0, 1)", 1).due("counted(0, 0, 0, 1)", 1).due("best(0, 0, 0, 1, 0)", 1).due("segment(0, 2)", 1);
        Run ended = run("ENDED it has and sees nothing any more").segments(2).make("view()", "letGo(0)");
        ended.due("state(0)", 2).due("size(0)", 0).due("groups(0)", 0).due("place(0, 0, 0, 1)", -1).due("segment(0, 2)", 0);
        ended.same("hit(0, 0, 0, 0)", Run.INDEX).same("group(0, 0, 0, 0)", Run.INDEX).same("counted(0, 0, 0, 0)", Run.INDEX)
            .same("best(0, 0, 0, 0, 0)", Run.INDEX).same("iterator(0, 0, 0, 0)", Run.INDEX);
    }

    private static void standingOfASegment() {
        run("A SEGMENT is LIVE while an object that is not DROPPED is in it").segments(2).due("segment(0, 1)", 0)
            .make("drop(0)").due("segment(0, 1)", 0).due("segment(0, 0)", 1).make("drop(1)").due("segment(0, 1)", 2);
        run("LIVE, seen or not").segments(1).due("segment(0, 1)", 0).make("view()").due("segment(0, 1)", 0)
            .due("letGo(0)", 0).due("segment(0, 1)", 0);
        run("else it is KEPT while a VIEW that is not ENDED sees it").segments(1).make("view()", "view()", "drop(0)")
            .due("segment(0, 1)", 1).due("letGo(1)", 0).due("segment(0, 1)", 1).due("letGo(0)", 1).due("segment(0, 1)", 2);
        run("a HELD VIEW keeps it").segments(1).make("view()", "iterator(0, 0, 0, -1)", "letGo(0)", "drop(0)")
            .due("segment(0, 1)", 1).due("segment(0, 2)", 1).due("next(0)", 0).due("segment(0, 1)", 2).due("segment(0, 2)", 0);
        run("a merged one is KEPT, or FREED").segments(1).make("view()").segments(1).due("merge(9)", 2)
            .due("segment(0, 1)", 1).due("segment(1, 1)", 2).due("segment(2, 1)", 0);
        run("FREED (for ever)").segments(1, 1).make("drop(0)").due("segment(0, 1)", 2).make("view()").due("segment(0, 1)", 2)
            .due("segment(0, 2)", 0).segments(1).make("merge(9)", "view()").due("segment(0, 1)", 2).due("drop(0)", false)
            .due("segment(0, 1)", 2).due("segment(0, 0)", 0);
    }

    private static void readersAreNumbered() {
        Run r = run("READERS are numbered as they are opened, 60 at most").segments(1).make("view()", "view()");
        for (int i = 0; i < 60; i++) {
            r.due(i % 2 == 0 ? "cursor(0, 0, 0, 1, 0, 9)" : "iterator(1, 0, 0, 0)", i);
        }
        r.same("cursor(0, 0, 0, 1, 0, 9)", Run.FULL).same("iterator(1, 0, 0, 0)", Run.FULL).same("iterator(1, 0, 0, -1)", Run.FULL);
        r.make("close(0)", "next(59)");
        r.same("cursor(0, 0, 0, 1, 0, 9)", Run.FULL).same("iterator(1, 0, 0, 0)", Run.FULL).due("told(8)", 60).due("told(9)", 58);
        Run atOnce = run("60 READERS at most, those that ended at once too").make("view()");
        for (int i = 0; i < 60; i++) {
            atOnce.due("iterator(0, 0, 0, -1)", i).due("left(" + i + ")", -1);
        }
        atOnce.same("iterator(0, 0, 0, -1)", Run.FULL).due("told(9)", 0).due("letGo(0)", 0).due("state(0)", 2);
    }

    private static void endOfACursor() {
        run("as soon as NOW is above its END: KEEP 1").make("view()", "cursor(0, 0, 0, 1, 0, 1)").due("tick(1)", 0)
            .due("left(0)", 0).due("tick(0)", 0).due("tick(1)", 1).due("left(0)", -1).due("tick(1)", 0);
        run("as soon as NOW is above its END: KEEP 1000").make("view()", "cursor(0, 0, 0, 1, 0, 1000)").due("tick(1000)", 0)
            .due("left(0)", 0).due("tick(1)", 1).due("left(0)", -1);
        run("END is NOW and its KEEP when it is opened").make("view()", "tick(10000)", "cursor(0, 0, 0, 1, 0, 3)")
            .due("tick(3)", 0).due("left(0)", 0).due("tick(1)", 1);
        run("and at each take()").segments(3).make("view()", "cursor(0, 0, 0, 1, 0, 3)").due("tick(3)", 0).due("take(0, 1)", 1)
            .due("tick(3)", 0).due("take(0, 1)", 1).due("tick(3)", 0).due("take(0, 1)", 1).due("tick(3)", 0).due("take(0, 1)", 0)
            .due("tick(3)", 0).due("left(0)", 0).due("tick(1)", 1).due("take(0, 1)", -1);
        run("a take() may bring the END nearer to no one else").segments(1)
            .make("view()", "cursor(0, 0, 0, 1, 0, 3)", "cursor(0, 0, 0, 1, 0, 3)", "tick(2)", "take(1, 1)").due("tick(2)", 1)
            .due("left(0)", -1).due("left(1)", 0).due("tick(1)", 0).due("tick(1)", 1);
        run("neither left() nor page() is a take()").segments(1).make("view()", "cursor(0, 0, 0, 1, 0, 2)", "take(0, 1)", "tick(2)",
            "left(0)", "page(0)").due("tick(1)", 1);
    }

    private static void endOfAnIterator() {
        run("an ITERATOR ends when it has given its last one").segments(2).make("view()", "iterator(0, 0, 0, -1)")
            .due("left(0)", 2).due("next(0)", 0).due("left(0)", 1).due("told(9)", 1).due("next(0)", 1).due("left(0)", -1)
            .due("told(9)", 0).same("next(0)", Run.ELEMENT);
        run("at once, if it has none").make("view()").due("iterator(0, 0, 0, -1)", 0).due("left(0)", -1).due("told(8)", 1)
            .due("told(9)", 0).due("state(0)", 0).same("next(0)", Run.ELEMENT).same("close(0)", 0);
        run("an ITERATOR has no END").segments(1).make("view()", "iterator(0, 0, 0, -1)").due("tick(10000)", 0).due("left(0)", 1)
            .due("next(0)", 0);
        run("it ends when it is closed").segments(2).make("view()", "iterator(0, 0, 0, -1)", "next(0)").due("close(0)", 0)
            .due("left(0)", -1).same("next(0)", Run.ELEMENT);
    }

    public static void main(String[] args) {
        fiveHundredAndTwelveCalls();
        objectsAreNumbered();
        newTillCommit();
        segmentsAreNumbered();
        droppedWhileNew();
        viewsAreNumbered();
        aViewHas();
        aViewSees();
        heldOrEndedAtOnce();
        heldAsLongAs();
        endedHasNothing();
        standingOfASegment();
        readersAreNumbered();
        endOfACursor();
        endOfAnIterator();
        EXPECT.done();
    }
}
