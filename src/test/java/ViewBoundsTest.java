/** The boundary cases that promises 8 to 17 name, sentence by sentence. */
public final class ViewBoundsTest {
    private static final Expect EXPECT = new Expect();

    /** In the sample view 0 is OPEN, 1 HELD, 2 ENDED; there is no 3. */
    private static final String[] VIEWS = {"0", "1", "2", "3", "-1", "MIN", "MAX"};
    private static final String[] NO_VIEWS = {"3", "-1", "MIN", "MAX"};
    private static final String[] KINDS = {"0", "1", "2", "3", "-1", "MIN", "MAX"};
    private static final String[] NUMBERS = {"-2", "-1", "0", "1", "2", "3", "4", "5", "6", "MIN", "MAX"};
    /** The hits of the sample's views by kind 0 and 1; what kind 2 gives is for another test. */
    private static final int[][] HITS = {{0, 1, 2, 4}, {4, 2, 1, 0}};
    private static final int[] GROUP_OF = {10, 20, 10, 30, 20, 40};

    private static Run run(String sentence) {
        return new Run(EXPECT, sentence);
    }

    private static Run sample(String sentence) {
        return Run.sample(EXPECT, sentence);
    }

    private static int number(String word) {
        return word.equals("MIN") ? Integer.MIN_VALUE : word.equals("MAX") ? Integer.MAX_VALUE : Integer.parseInt(word);
    }

    private static boolean isView(String view) {
        return number(view) >= 0 && number(view) <= 2;
    }

    private static boolean isKind(String kind) {
        return number(kind) >= 0 && number(kind) <= 2;
    }

    /** OPEN or HELD: it has its four objects in two groups. */
    private static boolean hasObjects(String view) {
        return number(view) == 0 || number(view) == 1;
    }

    /** Asking and refusing change nothing; where the order is that of the MIX, only that it answers is looked at. */
    private static void dueOf(String sentence, String call, String kind, String want) {
        if (kind.equals("2") && !want.startsWith("throws.")) {
            sample(sentence).make(call);
        } else {
            sample(sentence).same(call, want);
        }
    }

    private static void promise8() {
        Run r = run("8: A VIEW is opened: its number").segments(1);
        for (int i = 0; i < 30; i++) {
            r.due("view()", i).due("state(" + i + ")", 0);
        }
        r.same("view()", Run.FULL).same("state(30)", Run.INDEX).due("segment(0, 2)", 30);
        run("8: of nothing").due("view()", 0).due("view()", 1).due("told(7)", 2);
    }

    private static void promise9() {
        for (String view : NO_VIEWS) {
            sample("9: no such VIEW").same("letGo(" + view + ")", Run.INDEX);
        }
        sample("9: it is not OPEN").same("letGo(1)", Run.STATE).same("letGo(2)", Run.STATE).due("letGo(0)", 0).due("state(0)", 1)
            .same("letGo(0)", Run.STATE);
        run("9: how many SEGMENTS are FREED by that: none, it is LIVE").segments(1).make("view()").due("letGo(0)", 0);
        run("9: none, another VIEW sees it").segments(1).make("view()", "view()", "drop(0)").due("letGo(1)", 0).due("letGo(0)", 1);
        run("9: none, the VIEW is HELD").segments(1).make("view()", "iterator(0, 0, 0, -1)", "drop(0)").due("letGo(0)", 0)
            .due("told(4)", 1).due("close(0)", 1);
        run("9: none, it was FREED before").segments(1, 1).make("drop(0)", "view()").due("letGo(0)", 0).due("told(5)", 1);
        run("9: none, the VIEW sees nothing").make("view()").segments(1).make("drop(0)").due("letGo(0)", 0);
        Run all = run("9: 39 of them");
        for (int i = 0; i < 39; i++) {
            all.segments(1);
        }
        all.make("view()", "merge(2)", "view()").due("told(4)", 39).due("letGo(0)", 39).due("told(5)", 39).due("letGo(1)", 0);
        Run dropped = run("9: all 40, when all is DROPPED");
        for (int i = 0; i < 40; i++) {
            dropped.segments(1);
        }
        dropped.make("view()");
        for (int i = 0; i < 40; i++) {
            dropped.make("drop(" + i + ")");
        }
        dropped.due("told(4)", 40).due("letGo(0)", 40).due("told(4)", 0).due("told(5)", 40);
    }

    private static void promises10And11And14() {
        sample("10: Whether a VIEW is OPEN (0), HELD (1), ENDED (2)").same("state(0)", 0).same("state(1)", 1).same("state(2)", 2);
        sample("11: How many objects a VIEW has (0 when it is ENDED)").same("size(0)", 4).same("size(1)", 4).same("size(2)", 0);
        sample("14: How many GROUPS a VIEW has").same("groups(0)", 2).same("groups(1)", 2).same("groups(2)", 0);
        for (String view : NO_VIEWS) {
            sample("10: no such VIEW").same("state(" + view + ")", Run.INDEX);
            sample("11: no such VIEW").same("size(" + view + ")", Run.INDEX);
            sample("14: no such VIEW").same("groups(" + view + ")", Run.INDEX);
        }
        Run most = run("14: 300 GROUPS");
        for (int i = 0; i < 300; i++) {
            most.make("add(" + (i < 150 ? 200 - i : -i) + ", 0, 0)");
        }
        most.make("commit()", "view()").due("size(0)", 300).due("groups(0)", 300).due("group(0, 0, 0, 0)", 200)
            .due("group(0, 0, 0, 298)", -298).due("group(0, 0, 0, 299)", -299).due("counted(0, 0, 0, 299)", 1).due("best(0, 0, 0, 299, 0)", 299).same("group(0, 0, 0, 300)", Run.INDEX);
        Run one = run("14: one GROUP of 300");
        for (int i = 0; i < 300; i++) {
            one.make("add(-7, 0, 0)");
        }
        one.make("commit()", "view()").due("groups(0)", 1).due("counted(0, 1, 0, 0)", 300).due("best(0, 1, 0, 0, 299)", 299)
            .same("best(0, 1, 0, 0, 300)", Run.INDEX).same("group(0, 1, 0, 1)", Run.INDEX);
        run("14: no GROUPS").make("view()").due("groups(0)", 0).same("group(0, 0, 0, 0)", Run.INDEX);
    }

    private static void promise12(String view, String kind, String k) {
        String call = "hit(" + view + ", " + kind + ", 3, " + k + ")";
        boolean has = isView(view) && hasObjects(view) && number(k) >= 0 && number(k) < 4;
        String want = !has ? Run.INDEX : !isKind(kind) ? Run.ARGUMENT : "" + HITS[number(kind) % 2][number(k)];
        dueOf("12: no such VIEW, or it has no such HIT; kind is not 0 .. 2", call, kind, want);
    }

    private static void promise13(String view, String kind, String object) {
        String call = "place(" + view + ", " + kind + ", 3, " + object + ")";
        boolean isObject = number(object) >= 0 && number(object) <= 5;
        String want = !isView(view) || !isObject ? Run.INDEX : !isKind(kind) ? Run.ARGUMENT : "" + placeOf(view, kind, number(object));
        dueOf("13: -1: the VIEW has it not; no such VIEW, object; kind", call, kind, want);
    }

    private static int placeOf(String view, String kind, int object) {
        for (int k = 0; k < 4 && hasObjects(view); k++) {
            if (HITS[number(kind) % 2][k] == object) {
                return k;
            }
        }
        return -1;
    }

    private static void promises15And16(String view, String kind, String k) {
        String of = "(" + view + ", " + kind + ", 3, " + k + ")";
        boolean has = isView(view) && hasObjects(view) && number(k) >= 0 && number(k) < 2;
        String wrong = !has ? Run.INDEX : !isKind(kind) ? Run.ARGUMENT : "";
        String sentence = "no such VIEW, or it has not so many GROUPS; kind";
        dueOf("15: " + sentence, "group" + of, kind, !wrong.isEmpty() ? wrong : "" + GROUP_OF[HITS[number(kind) % 2][number(k)]]);
        dueOf("16: " + sentence, "counted" + of, kind, !wrong.isEmpty() ? wrong : "2");
    }

    private static void promise17(String view, String kind, String k, String j) {
        String call = "best(" + view + ", " + kind + ", 3, " + k + ", " + j + ")";
        boolean has = isView(view) && hasObjects(view) && number(k) >= 0 && number(k) < 2;
        String want = !has ? Run.INDEX : !isKind(kind) ? Run.ARGUMENT : number(j) < 0 || number(j) > 1 ? Run.INDEX : "";
        if (want.isEmpty()) {
            int[][][] best = {{{0, 2}, {1, 4}}, {{4, 1}, {2, 0}}};
            want = "" + best[number(kind) % 2][number(k)][number(j)];
        }
        dueOf("17: exceptions as group(); then, last, no such object", call, kind, want);
    }

    /** The keys have, by the seed 0, the MIXES 0xFFFFFFFFFFFFFFFF, 0x8000000000000000, 0x7FFFFFFFFFFFFFFF and 0. */
    private static void byMix() {
        Run r = run("12, 13, 15 to 17: kind 2").make("add(5, -3487469807577879104, 1)", "add(6, -3592346752865808038, 2)",
            "add(5, -6086893701949170222, 3)", "add(6, 0, 4)", "commit()", "view()");
        int[] hits = {3, 2, 1, 0};
        for (int k = 0; k < 4; k++) {
            r.due("hit(0, 2, 0, " + k + ")", hits[k]).due("place(0, 2, 0, " + hits[k] + ")", k);
        }
        r.due("group(0, 2, 0, 0)", 6).due("group(0, 2, 0, 1)", 5).due("counted(0, 2, 0, 0)", 2).due("best(0, 2, 0, 0, 0)", 3)
            .due("best(0, 2, 0, 0, 1)", 1).due("best(0, 2, 0, 1, 0)", 2).due("best(0, 2, 0, 1, 1)", 0);
    }

    private static void theLastOf300() {
        Run r = run("12: HIT k, from 0 on, of 300").segments(300).make("view()");
        r.due("hit(0, 0, 0, 0)", 0).due("hit(0, 0, 0, 299)", 299).due("hit(0, 1, 0, 0)", 299).due("hit(0, 1, 0, 299)", 0);
        r.same("hit(0, 0, 0, 300)", Run.INDEX).due("place(0, 0, 0, 299)", 299).due("place(0, 1, 0, 299)", 0);
        r.same("place(0, 0, 0, 300)", Run.INDEX).due("groups(0)", 3).due("counted(0, 0, 0, 2)", 100).due("best(0, 0, 0, 2, 99)", 299)
            .same("best(0, 0, 0, 2, 100)", Run.INDEX);
        run("12: of none").make("view()").same("hit(0, 0, 0, 0)", Run.INDEX).same("hit(0, 3, 0, 0)", Run.INDEX);
        run("13: of none").make("view()", "add(1, 1, 1)").same("place(0, 0, 0, 0)", -1).same("place(0, 3, 0, 0)", Run.ARGUMENT)
            .same("place(0, 3, 0, 1)", Run.INDEX);
    }

    public static void main(String[] args) {
        promise8();
        promise9();
        promises10And11And14();
        for (String view : VIEWS) {
            for (String kind : KINDS) {
                for (String k : NUMBERS) {
                    promise12(view, kind, k);
                    promise13(view, kind, k);
                    promises15And16(view, kind, k);
                }
                for (String k : new String[] {"-1", "0", "1", "2"}) {
                    for (String j : new String[] {"-1", "0", "1", "2", "MIN", "MAX"}) {
                        promise17(view, kind, k, j);
                    }
                }
            }
        }
        byMix();
        theLastOf300();
        EXPECT.done();
    }
}
