import java.util.ArrayList;
import java.util.List;

/** Promises 12 (hit) and 13 (place): the three ORDERS. */
public final class HitsTest {
    private static void duePlaces(Expect expect, GroupCursors x, int kind, long seed, int... objects) {
        for (int i = 0; i < objects.length; i++) {
            int k = i;
            expect.due("hit(0, " + kind + ", " + seed + ", " + k + ")", objects[k], () -> x.hit(0, kind, seed, k));
            x.hit(0, (kind + 1) % 3, seed + 1, 0);
            expect.due("place(0, " + kind + ", " + seed + ", " + objects[k] + ")", k, () -> x.place(0, kind, seed, objects[k]));
        }
        expect.noIndex("the hit behind the last", () -> x.hit(0, kind, seed, objects.length));
    }

    private static void bySort(Expect expect) {
        GroupCursors x = new GroupCursors();
        x.add(0, 5, 10);
        x.add(0, -5, 10);
        x.add(0, 5, 10);
        x.add(0, Long.MIN_VALUE, Long.MIN_VALUE);
        x.add(0, Long.MAX_VALUE, Long.MAX_VALUE);
        x.add(0, Long.MAX_VALUE, Long.MIN_VALUE);
        x.add(0, 0, -1);
        x.commit();
        x.view();
        duePlaces(expect, x, 0, 99, 3, 5, 6, 1, 0, 2, 4);
        duePlaces(expect, x, 1, 99, 4, 1, 0, 2, 6, 3, 5);
    }

    private static long mixed(long key, long seed) {
        long z = key ^ (seed * 0x9E3779B97F4A7C15L);
        z = (z ^ (z >>> 30)) * 0xBF58476D1CE4E5B9L;
        z = (z ^ (z >>> 27)) * 0x94D049BB133111EBL;
        return z ^ (z >>> 31);
    }

    private static void byMix(Expect expect, long seed) {
        GroupCursors x = new GroupCursors();
        List<Integer> due = new ArrayList<>();
        long[] keys = new long[50];
        for (int i = 0; i < keys.length; i++) {
            keys[i] = i % 3 == 0 ? i / 6 : -i * 1000003L;
            x.add(i, keys[i], -i);
            due.add(i);
        }
        due.sort((a, b) -> {
            int byMix = Long.compareUnsigned(mixed(keys[a], seed), mixed(keys[b], seed));
            return byMix != 0 ? byMix : Integer.compare(a, b);
        });
        x.commit();
        x.view();
        duePlaces(expect, x, 2, seed, due.stream().mapToInt(i -> i).toArray());
    }

    /** Written out, so that a fault in both mixers would show: splitmix64's first outputs stand behind the seed 0. */
    private static void knownMix(Expect expect) {
        expect.due("the mix of splitmix64's first state", 0xE220A8397B1DCDAFL, () -> mixed(0x9E3779B97F4A7C15L, 0));
        expect.due("the same by a seed", 0xE220A8397B1DCDAFL, () -> mixed(0, 1));
        expect.due("the mix of 0 by 0", 0, () -> mixed(0, 0));
    }

    private static void wrongOnes(Expect expect) {
        GroupCursors x = new GroupCursors();
        x.add(1, 1, 1);
        x.add(1, 2, 2);
        x.add(1, 3, 3);
        x.drop(2);
        x.commit();
        x.view();
        x.add(1, 4, 4);
        expect.noIndex("hit of no view", () -> x.hit(1, 0, 0, 0));
        expect.noIndex("hit of view -1", () -> x.hit(-1, 0, 0, 0));
        expect.noIndex("hit -1", () -> x.hit(0, 0, 0, -1));
        expect.noIndex("hit 2", () -> x.hit(0, 0, 0, 2));
        expect.noIndex("hit MAX", () -> x.hit(0, 0, 0, Integer.MAX_VALUE));
        expect.badArgument("hit of kind 3", () -> x.hit(0, 3, 0, 1));
        expect.badArgument("hit of kind -1", () -> x.hit(0, -1, 0, 1));
        expect.noIndex("the index comes first: hit 2 of kind 3", () -> x.hit(0, 3, 0, 2));
        expect.noIndex("the index comes first: no view, kind 3", () -> x.hit(7, 3, 0, 0));
        expect.due("place of one that was dropped", -1, () -> x.place(0, 0, 0, 2));
        expect.due("place of one that came later", -1, () -> x.place(0, 0, 0, 3));
        expect.noIndex("place of no object", () -> x.place(0, 0, 0, 4));
        expect.noIndex("place of object -1", () -> x.place(0, 0, 0, -1));
        expect.noIndex("place in no view", () -> x.place(1, 0, 0, 0));
        expect.noIndex("the index comes first: place of object 4 by kind 3", () -> x.place(0, 3, 0, 4));
        expect.badArgument("place by kind 3", () -> x.place(0, 3, 0, 0));
        expect.badArgument("place by kind -1 of one it has not", () -> x.place(0, -1, 0, 3));
        x.letGo(0);
        expect.noIndex("hit when ENDED", () -> x.hit(0, 0, 0, 0));
        expect.noIndex("hit by kind 3 when ENDED", () -> x.hit(0, 3, 0, 0));
        expect.due("place when ENDED", -1, () -> x.place(0, 0, 0, 0));
        expect.badArgument("place by kind 3 when ENDED", () -> x.place(0, 3, 0, 0));
    }

    public static void main(String[] args) {
        Expect expect = new Expect();
        knownMix(expect);
        bySort(expect);
        byMix(expect, 0);
        byMix(expect, 1);
        byMix(expect, -77);
        byMix(expect, Long.MIN_VALUE);
        wrongOnes(expect);
        expect.done();
    }
}
