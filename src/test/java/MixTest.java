import java.math.BigInteger;
import java.util.ArrayList;
import java.util.Comparator;
import java.util.List;

/**
 * The ORDERS and the slices where SORT, MIX or KEY are alike, and at the least and the greatest long. The MIX is worked
 * out here in whole numbers that have no sign and no size, so that nothing of Java's own arithmetic is taken for granted.
 */
public final class MixTest {
    private static final Expect EXPECT = new Expect();
    private static final BigInteger ROUND = BigInteger.ONE.shiftLeft(64);
    private static final long[] ENDS = {
        Long.MIN_VALUE, Long.MIN_VALUE + 1, -1, 0, 1, Long.MAX_VALUE - 1, Long.MAX_VALUE,
    };

    /** What add() was told. */
    record Told(int number, long group, long key, long sort) {
    }

    private static BigInteger whole(long bits) {
        return BigInteger.valueOf(bits).mod(ROUND);
    }

    private static BigInteger step(BigInteger z, int shift, String factor) {
        return z.xor(z.shiftRight(shift)).multiply(new BigInteger(factor, 16)).mod(ROUND);
    }

    private static BigInteger mix(long key, long seed) {
        BigInteger z = whole(key).xor(whole(seed).multiply(new BigInteger("9E3779B97F4A7C15", 16)).mod(ROUND));
        z = step(z, 30, "BF58476D1CE4E5B9");
        z = step(z, 27, "94D049BB133111EB");
        return z.xor(z.shiftRight(31));
    }

    private static List<Told> inOrder(List<Told> objects, int kind, long seed) {
        Comparator<Told> bySort = Comparator.comparing(t -> BigInteger.valueOf(t.sort));
        Comparator<Told> byMix = Comparator.comparing(t -> mix(t.key, seed));
        Comparator<Told> first = kind == 0 ? bySort : kind == 1 ? bySort.reversed() : byMix;
        List<Told> hits = new ArrayList<>(objects);
        hits.sort(first.thenComparing(t -> BigInteger.valueOf(t.key)).thenComparing(t -> t.number));
        return hits;
    }

    /** Every SORT of the ENDS with every KEY of the ENDS, twice, and not in order. */
    private static List<Told> endsByEnds() {
        List<Told> objects = new ArrayList<>();
        int many = 2 * ENDS.length * ENDS.length;
        for (int i = 0; i < many; i++) {
            int at = i * 37 % many / 2;
            objects.add(new Told(i, at % 5, ENDS[at % ENDS.length], ENDS[at / ENDS.length]));
        }
        return objects;
    }

    private static GroupCursors viewOf(List<Told> objects) {
        GroupCursors x = new GroupCursors();
        for (Told t : objects) {
            x.add(t.group, t.key, t.sort);
        }
        x.commit();
        x.view();
        return x;
    }

    private static void hitsAndPlaces(List<Told> objects, int kind, long seed) {
        GroupCursors x = viewOf(objects);
        List<Told> hits = inOrder(objects, kind, seed);
        String order = "(0, " + kind + ", " + seed + ", ";
        for (int i = 0; i < hits.size(); i++) {
            int k = i;
            int object = hits.get(k).number;
            EXPECT.due("hit" + order + k + ")", object, () -> x.hit(0, kind, seed, k));
            EXPECT.due("place" + order + object + ")", k, () -> x.place(0, kind, seed, object));
        }
    }

    private static void groupsAndBest(List<Told> objects, int kind, long seed) {
        GroupCursors x = viewOf(objects);
        List<Told> hits = inOrder(objects, kind, seed);
        List<Long> names = new ArrayList<>();
        for (Told t : hits) {
            if (!names.contains(t.group)) {
                names.add(t.group);
            }
        }
        EXPECT.due("groups(0)", names.size(), () -> x.groups(0));
        for (int i = 0; i < names.size(); i++) {
            int k = i;
            String of = "(0, " + kind + ", " + seed + ", " + k;
            List<Told> members = new ArrayList<>(hits);
            members.removeIf(t -> t.group != names.get(k));
            EXPECT.due("group" + of + ")", names.get(k), () -> x.group(0, kind, seed, k));
            EXPECT.due("counted" + of + ")", members.size(), () -> x.counted(0, kind, seed, k));
            for (int m = 0; m < members.size(); m++) {
                int j = m;
                EXPECT.due("best" + of + ", " + j + ")", members.get(j).number, () -> x.best(0, kind, seed, k, j));
            }
        }
    }

    /** By next() and by take(), of all and of every slice. */
    private static void readers(List<Told> objects, int kind, long seed, int slices) {
        GroupCursors x = viewOf(objects);
        List<Told> hits = inOrder(objects, kind, seed);
        x.iterator(0, kind, seed, -1);
        for (Told t : hits) {
            EXPECT.due("next(0), kind " + kind + ", seed " + seed, t.number, () -> x.next(0));
        }
        for (int slice = 0; slice < slices; slice++) {
            int reader = slice + 1;
            x.cursor(0, kind, seed, slices, slice, 1000);
            BigInteger wanted = BigInteger.valueOf(slice);
            List<Told> part = new ArrayList<>(hits);
            part.removeIf(t -> !mix(t.key, 0).mod(BigInteger.valueOf(slices)).equals(wanted));
            EXPECT.due("left of slice " + slice + " of " + slices, part.size(), () -> x.left(reader));
            for (int from = 0; from < part.size(); from += 50) {
                duePage(x, reader, part.subList(from, Math.min(from + 50, part.size())));
            }
            EXPECT.due("take of none", 0, () -> x.take(reader, 50));
        }
    }

    private static void duePage(GroupCursors x, int reader, List<Told> page) {
        EXPECT.due("take(" + reader + ", 50)", page.size(), () -> x.take(reader, 50));
        for (int i = 0; i < page.size(); i++) {
            int at = i;
            EXPECT.due("page(" + at + ") of reader " + reader, page.get(at).number, () -> x.page(at));
        }
    }

    public static void main(String[] args) {
        List<Told> objects = endsByEnds();
        long[] seeds = {0, 1, -1, 7, 0x9E3779B97F4A7C15L, Long.MIN_VALUE, Long.MAX_VALUE};
        for (int kind = 0; kind <= 2; kind++) {
            for (long seed : seeds) {
                hitsAndPlaces(objects, kind, seed);
                groupsAndBest(objects, kind, seed);
                for (int slices = 1; slices <= 8; slices++) {
                    readers(objects, kind, seed, slices);
                }
            }
        }
        EXPECT.done();
    }
}
