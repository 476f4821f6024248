/** The boundary cases that promises 18 to 26 name, sentence by sentence. */
public final class ReaderBoundsTest {
    private static final Expect EXPECT = new Expect();

    /** In the sample view 0 is OPEN, 1 HELD, 2 ENDED; there is no 3. */
    private static final int[] VIEWS = {0, 1, 2, 3, -1, Integer.MIN_VALUE, Integer.MAX_VALUE};
    private static final int[] KINDS = {0, 1, 2, 3, -1, Integer.MIN_VALUE, Integer.MAX_VALUE};
    /** In the sample reader 0 is a cursor, 1 an iterator; 2 is a cursor and 3 an iterator that have ended; there is no 4. */
    private static final int[] READERS = {0, 1, 2, 3, 4, -1, Integer.MIN_VALUE, Integer.MAX_VALUE};
    private static final int[] NO_READERS = {4, -1, Integer.MIN_VALUE, Integer.MAX_VALUE};

    private static Run run(String sentence) {
        return new Run(EXPECT, sentence);
    }

    private static Run sample(String sentence) {
        return Run.sample(EXPECT, sentence);
    }

    private static Run fullSample(String sentence) {
        return Run.sampleFullOfReaders(EXPECT, sentence);
    }

    private static boolean isKind(int kind) {
        return kind >= 0 && kind <= 2;
    }

    private static void promise18(int view, int kind, int slices, int slice, int keep) {
        String call = "cursor(" + view + ", " + kind + ", 3, " + slices + ", " + slice + ", " + keep + ")";
        boolean isCursor = isKind(kind) && slices >= 1 && slices <= 8 && slice >= 0 && slice <= slices - 1 && keep >= 1 && keep <= 1000;
        String wrong = view < 0 || view > 2 ? Run.INDEX : !isCursor ? Run.ARGUMENT : view != 0 ? Run.STATE : "";
        String sentence = "18: no such VIEW; kind, slices, slice, or keep is not such; it is not OPEN";
        if (wrong.isEmpty()) {
            sample(sentence).due(call, 4).due("told(8)", 5).due("told(9)", 3);
        } else {
            sample(sentence).same(call, wrong);
        }
    }

    private static void eachArgumentOf18() {
        int[] far = {Integer.MIN_VALUE, -1, 0, 1, 2, 7, 8, 9, Integer.MAX_VALUE};
        for (int slices : far) {
            for (int slice : far) {
                promise18(0, 0, slices, slice, 1);
            }
        }
        for (int slices = 1; slices <= 8; slices++) {
            promise18(0, 1, slices, slices - 1, 1000);
            promise18(0, 1, slices, slices, 1000);
        }
        for (int keep : new int[] {Integer.MIN_VALUE, -1, 0, 1, 2, 999, 1000, 1001, Integer.MAX_VALUE}) {
            promise18(0, 2, 1, 0, keep);
        }
        for (int view : VIEWS) {
            for (int kind : KINDS) {
                promise18(view, kind, 8, 7, 1000);
                promise18(view, kind, 9, 7, 1000);
                promise18(view, kind, 1, 1, 1);
                promise18(view, kind, 1, 0, 0);
                promise18(view, kind, 0, 0, 1001);
            }
        }
    }

    private static void promise18Full() {
        fullSample("18: FULL").same("cursor(0, 0, 0, 1, 0, 1)", Run.FULL).same("cursor(0, 2, MIN, 8, 7, 1000)", Run.FULL);
        String[] noViews = {"cursor(3, 0, 0, 1, 0, 1)", "cursor(-1, 3, 0, 1, 0, 1)"};
        String[] noArguments = {"cursor(0, 3, 0, 1, 0, 1)", "cursor(0, 0, 0, 9, 0, 1)", "cursor(0, 0, 0, 0, 0, 1)", "cursor(0, 0, 0, 1, 1, 1)",
            "cursor(0, 0, 0, 1, -1, 1)", "cursor(0, 0, 0, 1, 0, 0)", "cursor(0, 0, 0, 1, 0, 1001)", "cursor(1, 0, 0, 1, 0, 0)"};
        for (String call : noViews) {
            fullSample("18: FULL is no exception: no such VIEW").same(call, Run.INDEX);
        }
        for (String call : noArguments) {
            fullSample("18: FULL is no exception: an argument is not such").same(call, Run.ARGUMENT);
        }
        fullSample("18: FULL is no exception: it is not OPEN").same("cursor(1, 0, 0, 1, 0, 1)", Run.STATE)
            .same("cursor(2, 0, 0, 1, 0, 1)", Run.STATE);
        Run ended = fullSample("18: a CURSOR that did not come holds no VIEW").make("close(1)", "cursor(0, 0, 0, 1, 0, 1)");
        ended.due("letGo(0)", 0).due("state(0)", 2);
    }

    private static void promise19(int view, int kind, int k) {
        String call = "iterator(" + view + ", " + kind + ", 3, " + k + ")";
        boolean hasGroup = k == -1 || (view < 2 && k >= 0 && k < 2);
        String wrong = view < 0 || view > 2 || !hasGroup ? Run.INDEX : !isKind(kind) ? Run.ARGUMENT : view != 0 ? Run.STATE : "";
        String sentence = "19: no such VIEW, GROUP; kind; it is not OPEN";
        if (wrong.isEmpty()) {
            sample(sentence).due(call, 4).due("left(4)", k == -1 ? 4 : 2).due("told(8)", 5).due("told(9)", 3);
        } else {
            sample(sentence).same(call, wrong);
        }
    }

    private static void promise19() {
        for (int view : VIEWS) {
            for (int kind : KINDS) {
                for (int k : new int[] {-1, 0, 1, 2, -2, Integer.MIN_VALUE, Integer.MAX_VALUE}) {
                    promise19(view, kind, k);
                }
            }
        }
        fullSample("19: FULL").same("iterator(0, 0, 0, -1)", Run.FULL).same("iterator(0, 1, 0, 0)", Run.FULL).same("iterator(0, 2, 5, 1)", Run.FULL);
        fullSample("19: FULL is no exception: no such VIEW, GROUP").same("iterator(3, 0, 0, -1)", Run.INDEX)
            .same("iterator(0, 3, 0, 2)", Run.INDEX).same("iterator(0, 0, 0, -2)", Run.INDEX).same("iterator(2, 3, 0, 0)", Run.INDEX);
        fullSample("19: FULL is no exception: kind, not OPEN").same("iterator(0, 3, 0, 0)", Run.ARGUMENT)
            .same("iterator(1, 3, 0, -1)", Run.ARGUMENT).same("iterator(1, 0, 0, -1)", Run.STATE).same("iterator(2, 0, 0, -1)", Run.STATE);
        sample("19: of GROUP k by the ORDER").make("iterator(0, 1, 0, 0)", "iterator(0, 0, 0, 0)").due("next(4)", 4).due("next(4)", 1)
            .due("next(5)", 0).due("next(5)", 2).same("next(4)", Run.ELEMENT).same("next(5)", Run.ELEMENT);
        sample("19: or of all (k is -1)").make("iterator(0, 1, 0, -1)").due("next(4)", 4).due("next(4)", 2).due("next(4)", 1)
            .due("next(4)", 0).same("next(4)", Run.ELEMENT);
        run("19: of an OPEN VIEW that has none").make("view()").due("iterator(0, 2, 0, -1)", 0).same("iterator(0, 2, 0, 0)", Run.INDEX)
            .same("iterator(0, 3, 0, -1)", Run.ARGUMENT).due("left(0)", -1);
    }

    private static void promise20(int reader, int n) {
        String call = "take(" + reader + ", " + n + ")";
        boolean isTake = n >= 1 && n <= 50 && reader % 2 == 0;
        String sentence = "20: no such READER; n is not such, or it is an ITERATOR; -1: it has ended (the PAGE stays)";
        if (reader < 0 || reader > 3) {
            sample(sentence).same(call, Run.INDEX);
        } else if (!isTake) {
            sample(sentence).same(call, Run.ARGUMENT);
        } else if (reader == 2) {
            sample(sentence).same(call, -1);
        } else {
            int many = Math.min(n, 2);
            sample(sentence).due(call, many).due("told(11)", many).due("page(0)", 2).due("left(0)", 2 - many)
                .same("page(" + many + ")", Run.INDEX);
        }
    }

    private static void promise20() {
        for (int reader : READERS) {
            for (int n : new int[] {1, 2, 3, 49, 50, 51, 0, -1, Integer.MIN_VALUE, Integer.MAX_VALUE}) {
                promise20(reader, n);
            }
        }
        Run r = run("20: the next n (1 .. 50) of its HITS, or as many as are left").segments(103)
            .make("view()", "cursor(0, 0, 0, 1, 0, 1)").due("take(0, 50)", 50).due("page(0)", 0).due("page(49)", 49)
            .same("page(50)", Run.INDEX).due("left(0)", 53).due("take(0, 1)", 1).due("page(0)", 50).same("page(1)", Run.INDEX)
            .due("take(0, 50)", 50).due("page(49)", 100).due("left(0)", 2).due("take(0, 3)", 2).due("page(0)", 101)
            .due("page(1)", 102).same("page(2)", Run.INDEX).due("left(0)", 0);
        r.due("take(0, 50)", 0).due("told(11)", 0).same("page(0)", Run.INDEX).due("left(0)", 0).due("told(9)", 1);
        run("20: as many as are left: none from the first").make("view()", "cursor(0, 0, 0, 1, 0, 1)").due("take(0, 1)", 0)
            .due("told(11)", 0).due("left(0)", 0);
        run("20: -1: it has ended by tick()").segments(3).make("view()", "cursor(0, 0, 0, 1, 0, 1)", "take(0, 2)", "tick(2)")
            .same("take(0, 1)", -1).same("take(0, 0)", Run.ARGUMENT).due("page(1)", 1).due("told(11)", 2);
        run("20: -1: it has ended with its VIEW").segments(3).make("view()", "cursor(0, 0, 0, 1, 0, 1)", "take(0, 2)", "letGo(0)", "close(0)")
            .same("take(0, 1)", -1).due("page(0)", 0);
        run("20: a take() of another CURSOR makes another PAGE").segments(3).make("view()", "cursor(0, 0, 0, 1, 0, 1)",
            "cursor(0, 1, 0, 1, 0, 1)").due("take(0, 3)", 3).due("take(1, 1)", 1).due("page(0)", 2).same("page(1)", Run.INDEX)
            .due("left(0)", 0).due("left(1)", 2);
    }

    private static void promise21() {
        run("21: no PAGE yet").same("page(0)", Run.INDEX).same("page(-1)", Run.INDEX);
        for (String i : new String[] {"-1", "2", "3", "49", "50", "MIN", "MAX"}) {
            sample("21: IndexOutOfBoundsException").same("page(" + i + ")", Run.INDEX);
        }
        sample("21: Object i of the PAGE").same("page(0)", 0).same("page(1)", 1);
        sample("21: the PAGE stays, whatever comes but a take()").make("drop(0)", "close(0)", "letGo(0)", "close(1)", "tick(9)", "commit()",
            "merge(9)", "view()", "cursor(3, 0, 0, 1, 0, 9)").due("page(0)", 0).due("page(1)", 1).due("told(11)", 2);
    }

    private static void promise22() {
        for (int reader : NO_READERS) {
            sample("22: no such READER").same("next(" + reader + ")", Run.INDEX);
        }
        sample("22: it is a CURSOR").same("next(0)", Run.ARGUMENT);
        sample("22: it is a CURSOR, and has ended (this comes first)").same("next(2)", Run.ARGUMENT);
        sample("22: it has ended").same("next(3)", Run.ELEMENT);
        sample("22: An ITERATOR's next object").due("next(1)", 1).due("next(1)", 2).due("left(1)", 1).due("next(1)", 4).due("left(1)", -1)
            .due("told(11)", 2).same("next(1)", Run.ELEMENT);
        run("22: its last one frees what its VIEW saw").segments(1).make("view()", "iterator(0, 0, 0, -1)", "letGo(0)", "drop(0)")
            .due("told(4)", 1).due("next(0)", 0).due("told(5)", 1).due("state(0)", 2);
    }

    private static void promises23And24() {
        for (int reader : NO_READERS) {
            sample("23: IndexOutOfBoundsException").same("left(" + reader + ")", Run.INDEX);
            sample("24: IndexOutOfBoundsException").same("close(" + reader + ")", Run.INDEX);
        }
        sample("23: How many HITS a READER has yet to give; -1: it has ended").same("left(0)", 2).same("left(1)", 3).same("left(2)", -1)
            .same("left(3)", -1);
        run("23: 300, and 0 of a CURSOR that has given all").segments(300).make("view()", "iterator(0, 0, 0, -1)", "cursor(0, 0, 0, 1, 0, 1)")
            .due("left(0)", 300).due("left(1)", 300).make("take(1, 50)", "take(1, 50)", "take(1, 50)", "take(1, 50)", "take(1, 50)")
            .due("left(1)", 50).make("take(1, 50)").due("left(1)", 0).due("left(0)", 300);
        sample("24: A READER ends, if it has not").same("close(2)", 0).same("close(3)", 0).due("close(1)", 0).same("close(1)", 0)
            .due("left(1)", -1).due("state(0)", 0).due("told(9)", 1);
        sample("24: how many SEGMENTS are FREED by that: none, view 0 sees it").due("close(0)", 0).due("state(1)", 2).due("segment(1, 1)", 1);
        sample("24: one").make("letGo(0)").due("close(0)", 0).due("close(1)", 1).due("segment(1, 1)", 2).same("close(1)", 0);
        Run many = run("24: 39 of them");
        for (int i = 0; i < 39; i++) {
            many.segments(1);
        }
        many.make("view()", "cursor(0, 0, 0, 1, 0, 1)", "iterator(0, 0, 0, 0)", "letGo(0)", "merge(2)").due("told(4)", 39)
            .due("close(0)", 0).due("close(0)", 0).due("close(1)", 39).due("told(5)", 39).due("state(0)", 2);
        run("24: none of an OPEN VIEW").segments(1).make("view()", "cursor(0, 0, 0, 1, 0, 1)", "drop(0)").due("close(0)", 0)
            .due("told(4)", 1).due("letGo(0)", 1);
        Run all = run("24: the last of 60").segments(1).make("view()");
        for (int i = 0; i < 60; i++) {
            all.make("cursor(0, 0, 0, 1, 0, 9)");
        }
        all.make("letGo(0)", "drop(0)").same("close(60)", Run.INDEX);
        for (int i = 0; i < 60; i++) {
            all.due("state(0)", 1).due("close(" + i + ")", i == 59 ? 1 : 0);
        }
        all.due("state(0)", 2);
    }

    private static void promise25() {
        for (String n : new String[] {"-1", "10001", "MIN", "MAX"}) {
            sample("25: n is not 0 .. 10000").same("tick(" + n + ")", Run.ARGUMENT);
            run("25: n is not 0 .. 10000, on a new object").same("tick(" + n + ")", Run.ARGUMENT);
        }
        sample("25: NOW is n more: by 0").same("tick(0)", 0);
        run("25: NOW is n more").due("tick(10000)", 0).due("told(10)", 10000).due("tick(9999)", 0).due("told(10)", 19999).due("tick(1)", 0)
            .due("told(10)", 20000).same("tick(10001)", Run.ARGUMENT);
        Run most = run("25: as far as 512 calls go");
        for (int i = 0; i < 511; i++) {
            most.due("tick(10000)", 0);
        }
        most.due("told(10)", 5110000);
        Run ends = run("25: how many CURSORS end by that").segments(2).make("view()", "view()", "iterator(0, 0, 0, -1)");
        for (int i = 1; i < 60; i++) {
            ends.make("cursor(" + i % 2 + ", 0, 0, 1, 0, " + (i < 20 ? 1 : i < 59 ? 2 : 1000) + ")");
        }
        ends.make("close(1)", "close(30)").same("tick(0)", 0).due("tick(1)", 0).due("tick(1)", 18).due("told(9)", 40).due("tick(1)", 38)
            .due("told(9)", 2).due("tick(997)", 0).due("tick(1)", 1).due("told(9)", 1).due("left(0)", 2).due("tick(10000)", 0);
        sample("25: the end of a CURSOR ends its HELD VIEW").due("tick(5)", 0).due("state(1)", 1).due("tick(1)", 1).due("state(1)", 2)
            .due("state(0)", 0).due("segment(1, 2)", 1).due("told(9)", 1);
        run("25: and FREES what it saw").segments(1, 1).make("view()", "cursor(0, 0, 0, 1, 0, 1)", "cursor(0, 0, 0, 1, 0, 1)", "letGo(0)",
            "drop(0)", "merge(9)", "drop(1)").due("told(4)", 2).due("tick(1)", 0).due("told(4)", 2).due("tick(1)", 2).due("told(4)", 0)
            .due("told(5)", 2);
    }

    private static void promise26() {
        int[] due = {6, 1, 2, 1, 1, 0, 3, 2, 4, 2, 2, 2};
        for (int what = 0; what <= 11; what++) {
            sample("26: what is told").same("told(" + what + ")", due[what]);
        }
        for (String what : new String[] {"-1", "12", "MIN", "MAX"}) {
            sample("26: another what").same("told(" + what + ")", Run.INDEX);
            run("26: another what, on a new object").same("told(" + what + ")", Run.INDEX);
        }
        sample("26: LIVE, KEPT and FREED ones").make("close(0)", "letGo(0)").due("told(4)", 1).due("told(5)", 0).due("close(1)", 1)
            .due("told(3)", 1).due("told(4)", 0).due("told(5)", 1).due("told(7)", 0).due("told(9)", 0);
        sample("26: NEW ones that are not DROPPED").due("told(1)", 1).make("drop(5)").due("told(1)", 0).adds(2).due("told(1)", 2)
            .make("commit()").due("told(1)", 0).due("told(0)", 8);
    }

    public static void main(String[] args) {
        eachArgumentOf18();
        promise18Full();
        promise19();
        promise20();
        promise21();
        promise22();
        promises23And24();
        promise25();
        promise26();
        EXPECT.done();
    }
}
