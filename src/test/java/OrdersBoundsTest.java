/** The boundary cases of the ORDERS, the MIX, the slices and the GROUPS in "Terms", sentence by sentence. */
public final class OrdersBoundsTest {
    private static final Expect EXPECT = new Expect();

    /** By the seed 0 these KEYS have the least MIX, the one behind it, the two in the middle and the two greatest, without sign. */
    private static final String[] KEYS_BY_0 = {
        "0", "-7607213358146402862", "-6086893701949170222", "-3592346752865808038", "-1348739332212748756", "-3487469807577879104",
    };
    private static final String[] KEYS_BY_7 = {
        "6018027440424182931", "-4185555086889803455", "-575521219637888703", "-7088314265199790647", "-4698375177361823041",
        "-7197226379641697965",
    };
    private static final String[] KEYS_BY_MINUS_1 = {
        "7046029254386353131", "-602011719280736711", "-3868728234577994183", "-5769693933385657679", "-8322415717850214969",
        "-5885497823719444949",
    };
    private static final String[] KEYS_BY_MIN = {
        "-9223372036854775808", "1616158678708372946", "3136478334905605586", "5631025283988967770", "7874632704642027052",
        "5735902229276896704",
    };
    private static final String[] KEYS_BY_MAX = {
        "-2177342782468422677", "8621360317574039097", "5354643802276781625", "3453678103469118129", "900956319004560839",
        "3337874213135330859",
    };
    /** Of the MIXES of these keys, modulo 1 to 8. */
    private static final int[][] SLICES = {
        {0, 0, 0, 0, 0, 0, 0, 0},
        {0, 1, 1, 1, 1, 1, 1, 1},
        {0, 1, 1, 3, 2, 1, 0, 7},
        {0, 0, 2, 0, 3, 2, 1, 0},
        {0, 0, 2, 2, 4, 2, 0, 6},
        {0, 1, 0, 3, 0, 3, 1, 7},
    };
    private static final String[] SEEDS = {"0", "1", "-1", "7", "MIN", "MAX"};

    private static Run run(String sentence) {
        return new Run(EXPECT, sentence);
    }

    /** View 0 has exactly these hits in the order, both by hit() and by place(). */
    private static void dueHits(Run r, int kind, String seed, int... objects) {
        String order = "(0, " + kind + ", " + seed + ", ";
        r.due("size(0)", objects.length);
        for (int k = 0; k < objects.length; k++) {
            r.due("hit" + order + k + ")", objects[k]).due("place" + order + objects[k] + ")", k);
        }
        r.due("hit" + order + objects.length + ")", Run.INDEX).due("hit" + order + "-1)", Run.INDEX);
    }

    private static void bySort() {
        Run r = run("0 the lesser SORT first; 1 the greater SORT first");
        r.make("add(0, 0, 1)", "add(0, 0, MAX)", "add(0, 0, -1)", "add(0, 0, MIN)", "add(0, 0, 0)", "commit()", "view()");
        dueHits(r, 0, "0", 3, 2, 4, 0, 1);
        dueHits(r, 1, "0", 1, 0, 4, 2, 3);
        Run near = run("SORTS that differ by one at the ends");
        near.make("add(0, 0, 9223372036854775806)", "add(0, 1, MAX)", "add(0, 2, -9223372036854775807)", "add(0, 3, MIN)",
            "commit()", "view()");
        dueHits(near, 0, "0", 3, 2, 0, 1);
        dueHits(near, 1, "0", 1, 0, 2, 3);
    }

    private static void likeSorts() {
        Run keys = run("of like ones the lesser KEY");
        keys.make("add(0, 1, 5)", "add(0, MAX, 5)", "add(0, -1, 5)", "add(0, MIN, 5)", "add(0, 0, 5)", "commit()", "view()");
        dueHits(keys, 0, "0", 3, 2, 4, 0, 1);
        dueHits(keys, 1, "0", 3, 2, 4, 0, 1);
        for (String sort : new String[] {"MIN", "MAX", "0"}) {
            Run numbers = run("then the lesser number, SORT " + sort);
            for (int i = 0; i < 5; i++) {
                numbers.make("add(" + -i + ", 3, " + sort + ")");
            }
            numbers.make("commit()", "view()");
            for (int kind = 0; kind <= 2; kind++) {
                dueHits(numbers, kind, "9", 0, 1, 2, 3, 4);
            }
        }
    }

    /** The lesser number comes first although its SEGMENT is the later one. */
    private static void numbersNotSegments() {
        Run r = run("the lesser number, in whichever SEGMENT").make("add(0, 1, 1)", "commit()", "add(0, 1, 1)", "add(0, 2, 1)",
            "commit()", "add(0, 0, 1)", "commit()", "merge(2)", "view()");
        r.due("object(0, 3)", 3).due("object(1, 3)", 1);
        dueHits(r, 0, "0", 3, 0, 1, 2);
        dueHits(r, 1, "0", 3, 0, 1, 2);
    }

    private static void byMix(String seed, String[] keys) {
        Run r = run("2 the lesser MIX of the KEY by the seed first, without sign: seed " + seed);
        for (int i = keys.length - 1; i >= 0; i--) {
            r.make("add(0, " + keys[i] + ", 0)");
        }
        r.make("commit()", "view()");
        dueHits(r, 2, seed, 5, 4, 3, 2, 1, 0);
    }

    private static void likeMixes() {
        Run r = run("of like MIXES the lesser KEY, then the lesser number");
        r.make("add(0, 0, 3)", "add(0, " + KEYS_BY_0[5] + ", 2)", "add(0, 0, 1)", "add(0, " + KEYS_BY_0[5] + ", 0)",
            "commit()", "view()");
        dueHits(r, 2, "0", 0, 2, 1, 3);
    }

    /** In kinds 0 and 1 all has the same place by every seed; in kind 2 the seed 7 turns these two about. */
    private static void seedCountsForKind2Alone() {
        Run r = run("the seed counts for kind 2 alone").make("add(0, " + KEYS_BY_7[5] + ", 1)", "add(0, " + KEYS_BY_7[0] + ", 1)",
            "add(1, 5, 1)", "commit()", "view()");
        for (String seed : SEEDS) {
            dueHits(r, 0, seed, 0, 2, 1);
            dueHits(r, 1, seed, 0, 2, 1);
            r.due("group(0, 0, " + seed + ", 0)", 0).due("best(0, 1, " + seed + ", 0, 1)", 1);
        }
        r.due("place(0, 2, 7, 1)", 0).due("place(0, 2, 7, 0)", 2);
    }

    /** Each key has a cursor in each slice of each number of slices; whatever its own seed and kind, it is the MIX by 0 that counts. */
    private static void slicesOf(int slices, int kind, String seed) {
        Run r = run("whose MIX by the seed 0, without sign, modulo its slices is its slice: " + slices + " slices, seed " + seed);
        for (int i = 0; i < KEYS_BY_0.length; i++) {
            r.make("add(0, " + KEYS_BY_0[i] + ", " + i + ")");
        }
        r.make("commit()", "view()");
        for (int slice = 0; slice < slices; slice++) {
            r.due("cursor(0, " + kind + ", " + seed + ", " + slices + ", " + slice + ", 1)", slice);
            int many = 0;
            for (int[] row : SLICES) {
                many += row[slices - 1] == slice ? 1 : 0;
            }
            r.due("left(" + slice + ")", many).due("take(" + slice + ", 50)", many);
            if (kind == 0) {
                duePage(r, slices, slice);
            }
        }
    }

    private static void duePage(Run r, int slices, int slice) {
        int at = 0;
        for (int i = 0; i < SLICES.length; i++) {
            if (SLICES[i][slices - 1] == slice) {
                r.due("page(" + at + ")", i);
                at++;
            }
        }
        r.due("page(" + at + ")", Run.INDEX);
    }

    private static void cursorIsInTheOrder() {
        Run r = run("a CURSOR has, in an ORDER, those HITS");
        for (int i = 0; i < KEYS_BY_7.length; i++) {
            r.make("add(0, " + KEYS_BY_7[i] + ", " + i % 3 + ")");
        }
        r.make("commit()", "view()", "cursor(0, 0, 7, 1, 0, 1)", "cursor(0, 1, 7, 1, 0, 1)", "cursor(0, 2, 7, 1, 0, 1)");
        dueTaken(r, 0, 3, 0, 4, 1, 5, 2);
        dueTaken(r, 1, 5, 2, 4, 1, 3, 0);
        dueTaken(r, 2, 0, 1, 2, 3, 4, 5);
    }

    private static void dueTaken(Run r, int cursor, int... objects) {
        r.due("take(" + cursor + ", 50)", objects.length);
        for (int i = 0; i < objects.length; i++) {
            r.due("page(" + i + ")", objects[i]);
        }
    }

    private static void groupsInOrder() {
        Run r = run("GROUPS are in the order of the first HIT of each").make("add(MAX, 1, 5)", "add(MIN, 2, 4)", "add(0, 3, 3)",
            "add(MIN, 4, 9)", "add(MAX, 5, 1)", "add(-1, 6, 3)", "commit()", "view()");
        r.due("groups(0)", 4);
        dueGroup(r, 0, 0, "MAX", 4, 0);
        dueGroup(r, 0, 1, "0", 2);
        dueGroup(r, 0, 2, "-1", 5);
        dueGroup(r, 0, 3, "MIN", 1, 3);
        dueGroup(r, 1, 0, "MIN", 3, 1);
        dueGroup(r, 1, 1, "MAX", 0, 4);
        dueGroup(r, 1, 2, "0", 2);
        dueGroup(r, 1, 3, "-1", 5);
        r.due("group(0, 0, 0, 4)", Run.INDEX).due("group(0, 1, 0, 4)", Run.INDEX);
    }

    private static void dueGroup(Run r, int kind, int k, String group, int... objects) {
        String of = "(0, " + kind + ", 0, " + k;
        String name = group.equals("MIN") ? "-9223372036854775808" : group.equals("MAX") ? "9223372036854775807" : group;
        r.due("group" + of + ")", name).due("counted" + of + ")", objects.length);
        for (int j = 0; j < objects.length; j++) {
            r.due("best" + of + ", " + j + ")", objects[j]);
        }
        r.due("best" + of + ", " + objects.length + ")", Run.INDEX);
    }

    /** Of like SORTS and KEYS the number says which GROUP is first; groups by the MIX follow the MIX. */
    private static void groupsOfLikeOnes() {
        Run like = run("GROUPS whose first HITS are alike but for the number").make("add(9, 1, 1)", "add(8, 1, 1)", "add(9, 1, 1)",
            "commit()", "view()");
        for (int kind = 0; kind <= 2; kind++) {
            dueGroup(like, kind, 0, "9", 0, 2);
            dueGroup(like, kind, 1, "8", 1);
        }
        Run mixed = run("GROUPS by the MIX").make("add(5, " + KEYS_BY_7[5] + ", 1)", "add(6, " + KEYS_BY_7[3] + ", 2)",
            "add(5, " + KEYS_BY_7[2] + ", 3)", "commit()", "view()");
        mixed.due("group(0, 2, 7, 0)", 5).due("best(0, 2, 7, 0, 0)", 2).due("best(0, 2, 7, 0, 1)", 0).due("group(0, 2, 7, 1)", 6)
            .due("counted(0, 2, 7, 1)", 1);
    }

    /** A group is in the order of its hits in this VIEW: a first hit that came later, or is DROPPED, does not count. */
    private static void groupsOfThisViewAlone() {
        run("Its GROUPS are those of its objects").make("add(1, 1, 1)", "add(2, 2, 2)", "add(1, 3, 3)", "commit()", "view()", "drop(0)",
            "view()", "add(3, 0, 0)", "commit()").due("group(0, 0, 0, 0)", 1).due("group(1, 0, 0, 0)", 2).due("group(1, 0, 0, 1)", 1)
            .due("counted(0, 0, 0, 0)", 2).due("counted(1, 0, 0, 1)", 1).due("groups(0)", 2).due("groups(1)", 2);
    }

    public static void main(String[] args) {
        bySort();
        likeSorts();
        numbersNotSegments();
        byMix("0", KEYS_BY_0);
        byMix("7", KEYS_BY_7);
        byMix("-1", KEYS_BY_MINUS_1);
        byMix("MIN", KEYS_BY_MIN);
        byMix("MAX", KEYS_BY_MAX);
        likeMixes();
        seedCountsForKind2Alone();
        for (int slices = 1; slices <= 8; slices++) {
            for (int kind = 0; kind <= 2; kind++) {
                slicesOf(slices, kind, SEEDS[(slices + kind) % SEEDS.length]);
            }
        }
        cursorIsInTheOrder();
        groupsInOrder();
        groupsOfLikeOnes();
        groupsOfThisViewAlone();
        EXPECT.done();
    }
}
