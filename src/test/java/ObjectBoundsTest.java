/** The boundary cases that promises 1 to 7 name, sentence by sentence. */
public final class ObjectBoundsTest {
    private static final Expect EXPECT = new Expect();

    private static Run run(String sentence) {
        return new Run(EXPECT, sentence);
    }

    private static Run sample(String sentence) {
        return Run.sample(EXPECT, sentence);
    }

    /** On a new object every number is one too many. */
    private static void promise1() {
        Run r = run("1: No objects, SEGMENTS, VIEWS, READERS");
        for (int what = 0; what <= 11; what++) {
            r.due("told(" + what + ")", 0);
        }
        String[] refused = {"drop(0)", "object(0, 0)", "segment(0, 0)", "letGo(0)", "state(0)", "size(0)", "hit(0, 0, 0, 0)",
            "place(0, 0, 0, 0)", "groups(0)", "group(0, 0, 0, 0)", "counted(0, 0, 0, 0)", "best(0, 0, 0, 0, 0)",
            "cursor(0, 0, 0, 1, 0, 1)", "iterator(0, 0, 0, -1)", "take(0, 1)", "page(0)", "next(0)", "left(0)", "close(0)"};
        for (String call : refused) {
            r.same(call, Run.INDEX);
        }
        r.same("commit()", 0).same("merge(MAX)", 0).same("tick(0)", 0);
        run("1: objects of the class know nothing of one another").make("add(1, 1, 1)").due("told(0)", 1);
        run("1: objects of the class know nothing of one another").due("told(0)", 0).due("add(1, 1, 1)", 0);
    }

    private static void promise2() {
        run("2: An object more: its number").due("add(MIN, MIN, MIN)", 0).due("add(MAX, MAX, MAX)", 1).due("add(0, 0, 0)", 2)
            .due("add(0, 0, 0)", 3).due("told(0)", 4).due("told(1)", 4)
            .due("object(0, 0)", Long.MIN_VALUE).due("object(0, 1)", Long.MIN_VALUE).due("object(0, 2)", Long.MIN_VALUE)
            .due("object(1, 0)", Long.MAX_VALUE).due("object(1, 1)", Long.MAX_VALUE).due("object(1, 2)", Long.MAX_VALUE)
            .due("object(2, 3)", -1).due("object(2, 4)", 0);
        Run full = run("2: FULL").adds(299).due("add(7, 8, 9)", 299).same("add(1, 2, 3)", Run.FULL);
        full.due("object(299, 0)", 7).due("object(299, 2)", 9).same("object(300, 0)", Run.INDEX).due("commit()", 300);
        full.same("add(1, 2, 3)", Run.FULL);
    }

    private static void promise3() {
        Run fresh = run("3: An object is DROPPED: whether it was not (NEW)").adds(3).due("drop(0)", true).due("object(0, 4)", 1)
            .due("object(1, 4)", 0).due("told(1)", 2);
        fresh.same("drop(0)", false).due("drop(2)", true).due("told(1)", 1);
        Run settled = run("3: An object is DROPPED: whether it was not (in a SEGMENT)").segments(3).due("drop(2)", true)
            .due("segment(0, 0)", 2);
        settled.same("drop(2)", false).due("drop(0)", true).due("segment(0, 0)", 1).same("drop(0)", false);
        sample("3: dropped once, it was DROPPED").same("drop(3)", false).same("drop(4)", false);
        for (String wrong : new String[] {"-1", "6", "MIN", "MAX"}) {
            sample("3: no such one").same("drop(" + wrong + ")", Run.INDEX);
        }
        run("3: the last of all").adds(300).same("drop(300)", Run.INDEX).due("drop(299)", true).due("drop(0)", true);
        run("3: a dropped one does not come back").segments(1).make("drop(0)", "commit()", "merge(9)", "view()")
            .due("object(0, 4)", 1).due("size(0)", 0).same("drop(0)", false);
    }

    private static void promise4() {
        run("4: The NEW objects that are not DROPPED: how many").adds(3).make("drop(1)").due("commit()", 2).due("segment(0, 0)", 2)
            .due("object(0, 3)", 0).due("object(1, 3)", -1).due("object(2, 3)", 0).due("told(1)", 0);
        run("4: all 300").adds(300).due("commit()", 300).due("segment(0, 0)", 300).due("object(299, 3)", 0);
        run("4: (all are NEW no more)").adds(2).make("drop(0)", "commit()").same("commit()", 0).due("told(2)", 1);
        run("4: 0: there are none").same("commit()", 0);
        run("4: 0: the NEW ones are DROPPED, and no SEGMENT comes").adds(2).make("drop(0)", "drop(1)").same("commit()", 0)
            .due("told(2)", 0).same("segment(0, 0)", Run.INDEX);
        run("4: a DROPPED one of an earlier commit() is not NEW again").segments(1).make("drop(0)").same("commit()", 0)
            .adds(1).due("commit()", 1).due("object(0, 3)", 0).due("object(1, 3)", 1);
        Run full = run("4: FULL");
        for (int i = 0; i < 40; i++) {
            full.segments(1);
        }
        full.same("commit()", 0).adds(2).same("commit()", Run.FULL).due("told(1)", 2).due("object(41, 3)", -1);
        full.make("drop(40)").same("commit()", Run.FULL).make("drop(41)").same("commit()", 0).due("told(2)", 40);
    }

    private static void promise5() {
        run("5: with less than n such ones").segments(2, 3, 3, 4).same("merge(3)", 0).due("merge(4)", 8).due("told(2)", 5)
            .due("object(0, 3)", 4).due("object(2, 3)", 4).due("object(5, 3)", 4).due("object(8, 3)", 3).due("segment(4, 0)", 8)
            .due("segment(0, 0)", 0).due("segment(3, 0)", 4).due("told(3)", 2).due("told(5)", 3);
        for (String n : new String[] {"MIN", "-1", "0", "1"}) {
            run("5: no SEGMENT has less than " + n).segments(1, 1).same("merge(" + n + ")", 0);
            sample("5: no SEGMENT has less than " + n).same("merge(" + n + ")", 0);
        }
        run("5: two or more: none").same("merge(MAX)", 0);
        run("5: two or more: NEW ones are in no SEGMENT").adds(2).same("merge(MAX)", 0);
        run("5: two or more: one").segments(3).same("merge(MAX)", 0);
        run("5: two or more: one that has less").segments(1, 5).same("merge(5)", 0).due("merge(6)", 6);
        run("5: two or more: two").segments(1, 1).due("merge(2)", 2).same("merge(MAX)", 0).due("told(2)", 3);
        run("5: n may be as great as an int").segments(150, 150).due("merge(MAX)", 300).due("segment(2, 0)", 300);
        run("5: 300 are less than 301, not than 300").segments(299, 1).same("merge(299)", 0).due("merge(300)", 300);
        run("5: but DROPPED ones").segments(3, 3).make("drop(0)", "drop(1)", "drop(5)").same("merge(2)", 0).due("merge(3)", 3)
            .due("object(0, 3)", 0).due("object(2, 3)", 2).due("object(5, 3)", 1);
        run("5: of all LIVE SEGMENTS: a FREED one is none").segments(1, 1).make("drop(0)").same("merge(MAX)", 0);
        run("5: of all LIVE SEGMENTS: a KEPT one is none").segments(1, 1).make("view()", "drop(0)").same("merge(MAX)", 0);
        run("5: NEW ones stay NEW").segments(1, 1).adds(1).due("merge(MAX)", 2).due("object(2, 3)", -1).due("told(1)", 1)
            .due("commit()", 1).due("object(2, 3)", 3);
    }

    private static void promise5Full() {
        Run full = run("5: FULL");
        for (int i = 0; i < 40; i++) {
            full.segments(i == 0 ? 1 : 2);
        }
        full.same("merge(1)", 0).same("merge(2)", 0).same("merge(3)", Run.FULL).same("merge(MAX)", Run.FULL);
        full.make("drop(3)").same("merge(2)", Run.FULL).due("object(0, 3)", 0).due("told(3)", 40);
        Run last = run("5: FULL comes behind the 40th");
        for (int i = 0; i < 39; i++) {
            last.segments(1);
        }
        last.make("view()").due("merge(2)", 39).due("told(2)", 40).due("told(4)", 39).same("merge(MAX)", 0);
    }

    private static void promise6() {
        Run r = sample("6: Of an object");
        long[][] due = {{10, 5, 1, 0, 0}, {20, -3, 2, 0, 0}, {10, 7, 3, 0, 0}, {30, 9, 9, -1, 1}, {20, 1, 4, 1, 1}, {40, 0, 0, -1, 0}};
        for (int i = 0; i < due.length; i++) {
            for (int what = 0; what <= 4; what++) {
                r.due("object(" + i + ", " + what + ")", due[i][what]);
            }
        }
        run("6: the SEGMENT in which it was when it was DROPPED").segments(2, 1).make("drop(0)", "merge(9)").due("object(0, 3)", 0)
            .due("object(1, 3)", 2).make("drop(1)").segments(2).make("merge(9)").due("object(0, 3)", 0).due("object(1, 3)", 2)
            .due("object(2, 3)", 4);
        for (String what : new String[] {"-1", "5", "MIN", "MAX"}) {
            sample("6: no such what").same("object(0, " + what + ")", Run.INDEX).same("object(5, " + what + ")", Run.INDEX)
                .same("object(6, " + what + ")", Run.INDEX);
        }
        for (String wrong : new String[] {"-1", "6", "MIN", "MAX"}) {
            sample("6: no such object").same("object(" + wrong + ", 0)", Run.INDEX).same("object(" + wrong + ", 4)", Run.INDEX);
        }
        run("6: the last of all").adds(300).due("object(299, 2)", 299).same("object(300, 2)", Run.INDEX);
        sample("6: asking changes nothing").same("object(0, 0)", 10).same("object(5, 3)", -1).same("object(4, 4)", 1);
    }

    private static void promise7() {
        Run r = sample("7: Of a SEGMENT");
        r.due("segment(0, 0)", 3).due("segment(0, 1)", 0).due("segment(0, 2)", 2);
        r.due("segment(1, 0)", 0).due("segment(1, 1)", 1).due("segment(1, 2)", 2);
        r.due("close(0)", 0).due("segment(1, 2)", 1).due("letGo(0)", 0).due("segment(1, 2)", 1).due("close(1)", 1)
            .due("segment(1, 1)", 2).due("segment(1, 2)", 0).due("segment(0, 2)", 0).due("segment(0, 1)", 0);
        for (String what : new String[] {"-1", "3", "MIN", "MAX"}) {
            sample("7: no such what").same("segment(0, " + what + ")", Run.INDEX).same("segment(2, " + what + ")", Run.INDEX);
        }
        for (String wrong : new String[] {"-1", "2", "MIN", "MAX"}) {
            sample("7: no such SEGMENT").same("segment(" + wrong + ", 0)", Run.INDEX).same("segment(" + wrong + ", 2)", Run.INDEX);
        }
        Run full = run("7: the last of all");
        for (int i = 0; i < 40; i++) {
            full.segments(1);
        }
        full.make("view()").due("segment(39, 0)", 1).due("segment(39, 2)", 1).same("segment(40, 0)", Run.INDEX);
        Run seen = run("7: how many VIEWS that are not ENDED see it").segments(1);
        for (int i = 0; i < 30; i++) {
            seen.make("view()").due("segment(0, 2)", i + 1);
        }
        seen.make("drop(0)");
        for (int i = 0; i < 30; i++) {
            seen.due("segment(0, 1)", 1).due("letGo(" + i + ")", i == 29 ? 1 : 0).due("segment(0, 2)", 29 - i);
        }
        seen.due("segment(0, 1)", 2);
        sample("7: asking changes nothing").same("segment(0, 0)", 3).same("segment(1, 1)", 1).same("segment(1, 2)", 2);
    }

    public static void main(String[] args) {
        promise1();
        promise2();
        promise3();
        promise4();
        promise5();
        promise5Full();
        promise6();
        promise7();
        EXPECT.done();
    }
}
