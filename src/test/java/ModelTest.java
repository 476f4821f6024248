import java.util.ArrayList;
import java.util.LinkedHashMap;
import java.util.List;
import java.util.Map;
import java.util.NoSuchElementException;
import java.util.Random;
import java.util.Set;
import java.util.TreeSet;

/**
 * Runs of 512 calls against a second, plain reading of the document, in which every state is worked out anew
 * from the terms. The numbers come from a fixed seed, so each run of the test is the same.
 */
public final class ModelTest {
    private static final int RUNS = 1500;
    private static final int CALLS = 512;

    static final class Thing {
        int number;
        long group;
        long key;
        long sort;
        int segment = -1;
        boolean dropped;

        boolean isIn(int wanted) {
            return segment == wanted && !dropped;
        }
    }

    static final class Sight {
        final List<Thing> things = new ArrayList<>();
        final Set<Integer> segments = new TreeSet<>();
        boolean letGo;
    }

    static final class Reading {
        int view;
        boolean isCursor;
        List<Thing> hits;
        int given;
        int keep;
        int end;
        boolean closed;
    }

    /** The document, word by word. */
    static final class Model {
        final List<Thing> things = new ArrayList<>();
        final List<Sight> views = new ArrayList<>();
        final List<Reading> readers = new ArrayList<>();
        List<Thing> page = new ArrayList<>();
        int segments;
        int now;

        static void index(boolean isRight) {
            if (!isRight) {
                throw new IndexOutOfBoundsException();
            }
        }

        static void argument(boolean isRight) {
            if (!isRight) {
                throw new IllegalArgumentException();
            }
        }

        static void kind(int kind) {
            argument(kind == 0 || kind == 1 || kind == 2);
        }

        static long mix(long key, long seed) {
            long z = key ^ (seed * 0x9E3779B97F4A7C15L);
            z = (z ^ (z >>> 30)) * 0xBF58476D1CE4E5B9L;
            z = (z ^ (z >>> 27)) * 0x94D049BB133111EBL;
            return z ^ (z >>> 31);
        }

        static int compare(Thing a, Thing b, int kind, long seed) {
            int first = kind == 0 ? Long.compare(a.sort, b.sort)
                : kind == 1 ? Long.compare(b.sort, a.sort)
                : Long.compareUnsigned(mix(a.key, seed), mix(b.key, seed));
            if (first != 0) {
                return first;
            }
            int second = Long.compare(a.key, b.key);
            return second != 0 ? second : Integer.compare(a.number, b.number);
        }

        boolean hasEnded(Reading r) {
            return r.closed || (r.isCursor ? now > r.end : r.given == r.hits.size());
        }

        int stateOf(int view) {
            if (!views.get(view).letGo) {
                return 0;
            }
            for (Reading r : readers) {
                if (r.view == view && !hasEnded(r)) {
                    return 1;
                }
            }
            return 2;
        }

        List<Thing> thingsOf(int view) {
            index(view >= 0 && view < views.size());
            return stateOf(view) == 2 ? new ArrayList<>() : new ArrayList<>(views.get(view).things);
        }

        List<Thing> hits(int view, int kind, long seed) {
            List<Thing> hits = thingsOf(view);
            hits.sort((a, b) -> compare(a, b, kind, seed));
            return hits;
        }

        List<List<Thing>> groupsOf(int view, int kind, long seed) {
            Map<Long, List<Thing>> found = new LinkedHashMap<>();
            for (Thing t : hits(view, kind, seed)) {
                found.computeIfAbsent(t.group, g -> new ArrayList<>()).add(t);
            }
            return new ArrayList<>(found.values());
        }

        List<Thing> groupOf(int view, int kind, long seed, int k) {
            List<List<Thing>> groups = groupsOf(view, kind, seed);
            index(k >= 0 && k < groups.size());
            kind(kind);
            return groups.get(k);
        }

        int membersOf(int segment) {
            int many = 0;
            for (Thing t : things) {
                many += t.isIn(segment) ? 1 : 0;
            }
            return many;
        }

        int watchersOf(int segment) {
            int many = 0;
            for (int i = 0; i < views.size(); i++) {
                many += stateOf(i) != 2 && views.get(i).segments.contains(segment) ? 1 : 0;
            }
            return many;
        }

        int standingOf(int segment) {
            return membersOf(segment) > 0 ? 0 : watchersOf(segment) > 0 ? 1 : 2;
        }

        int segmentsStanding(int standing) {
            int many = 0;
            for (int i = 0; i < segments; i++) {
                many += standingOf(i) == standing ? 1 : 0;
            }
            return many;
        }

        int fresh() {
            return membersOf(-1);
        }

        int readersGoingOn(boolean cursorsAlone) {
            int many = 0;
            for (Reading r : readers) {
                many += !hasEnded(r) && (r.isCursor || !cursorsAlone) ? 1 : 0;
            }
            return many;
        }

        int viewsGoingOn() {
            int many = 0;
            for (int i = 0; i < views.size(); i++) {
                many += stateOf(i) != 2 ? 1 : 0;
            }
            return many;
        }

        long add(long group, long key, long sort) {
            if (things.size() == 300) {
                return -4;
            }
            Thing t = new Thing();
            t.number = things.size();
            t.group = group;
            t.key = key;
            t.sort = sort;
            things.add(t);
            return t.number;
        }

        long drop(int object) {
            index(object >= 0 && object < things.size());
            boolean was = things.get(object).dropped;
            things.get(object).dropped = true;
            return was ? 0 : 1;
        }

        long moveAll(Set<Integer> from) {
            if (segments == 40) {
                return -4;
            }
            int many = 0;
            for (Thing t : things) {
                if (!t.dropped && from.contains(t.segment)) {
                    t.segment = segments;
                    many++;
                }
            }
            segments++;
            return many;
        }

        long commit() {
            return fresh() == 0 ? 0 : moveAll(Set.of(-1));
        }

        long merge(int n) {
            Set<Integer> chosen = new TreeSet<>();
            for (int i = 0; i < segments; i++) {
                if (standingOf(i) == 0 && membersOf(i) < n) {
                    chosen.add(i);
                }
            }
            return chosen.size() < 2 ? 0 : moveAll(chosen);
        }

        long object(int object, int what) {
            index(object >= 0 && object < things.size() && what >= 0 && what <= 4);
            Thing t = things.get(object);
            return new long[] {t.group, t.key, t.sort, t.segment, t.dropped ? 1 : 0}[what];
        }

        long segment(int segment, int what) {
            index(segment >= 0 && segment < segments && what >= 0 && what <= 2);
            return new int[] {membersOf(segment), standingOf(segment), watchersOf(segment)}[what];
        }

        long view() {
            if (views.size() == 30) {
                return -4;
            }
            Sight v = new Sight();
            for (Thing t : things) {
                if (t.segment != -1 && !t.dropped) {
                    v.things.add(t);
                    v.segments.add(t.segment);
                }
            }
            views.add(v);
            return views.size() - 1;
        }

        long letGo(int view) {
            index(view >= 0 && view < views.size());
            if (views.get(view).letGo) {
                throw new IllegalStateException();
            }
            int before = segmentsStanding(2);
            views.get(view).letGo = true;
            return segmentsStanding(2) - before;
        }

        long state(int view) {
            index(view >= 0 && view < views.size());
            return stateOf(view);
        }

        long hit(int view, int kind, long seed, int k) {
            List<Thing> hits = hits(view, kind, seed);
            index(k >= 0 && k < hits.size());
            kind(kind);
            return hits.get(k).number;
        }

        long place(int view, int kind, long seed, int object) {
            List<Thing> hits = hits(view, kind, seed);
            index(object >= 0 && object < things.size());
            kind(kind);
            return hits.indexOf(things.get(object));
        }

        long best(int view, int kind, long seed, int k, int j) {
            List<Thing> group = groupOf(view, kind, seed, k);
            index(j >= 0 && j < group.size());
            return group.get(j).number;
        }

        long read(int view, List<Thing> hits, int keep) {
            if (views.get(view).letGo) {
                throw new IllegalStateException();
            }
            if (readers.size() == 60) {
                return -4;
            }
            Reading r = new Reading();
            r.view = view;
            r.hits = hits;
            r.isCursor = keep > 0;
            r.keep = keep;
            r.end = now + keep;
            readers.add(r);
            return readers.size() - 1;
        }

        long cursor(int view, int kind, long seed, int slices, int slice, int keep) {
            List<Thing> hits = hits(view, kind, seed);
            kind(kind);
            argument(slices >= 1 && slices <= 8 && slice >= 0 && slice <= slices - 1 && keep >= 1 && keep <= 1000);
            hits.removeIf(t -> Long.remainderUnsigned(mix(t.key, 0), slices) != slice);
            return read(view, hits, keep);
        }

        long iterator(int view, int kind, long seed, int k) {
            List<Thing> hits = k == -1 ? hits(view, kind, seed) : groupOf(view, kind, seed, k);
            kind(kind);
            return read(view, hits, 0);
        }

        Reading reading(int reader) {
            index(reader >= 0 && reader < readers.size());
            return readers.get(reader);
        }

        long take(int reader, int n) {
            Reading r = reading(reader);
            argument(n >= 1 && n <= 50 && r.isCursor);
            if (hasEnded(r)) {
                return -1;
            }
            int many = Math.min(n, r.hits.size() - r.given);
            page = r.hits.subList(r.given, r.given + many);
            r.given += many;
            r.end = now + r.keep;
            return many;
        }

        long page(int i) {
            index(i >= 0 && i < page.size());
            return page.get(i).number;
        }

        long next(int reader) {
            Reading r = reading(reader);
            argument(!r.isCursor);
            if (hasEnded(r)) {
                throw new NoSuchElementException();
            }
            r.given++;
            return r.hits.get(r.given - 1).number;
        }

        long left(int reader) {
            Reading r = reading(reader);
            return hasEnded(r) ? -1 : r.hits.size() - r.given;
        }

        long close(int reader) {
            Reading r = reading(reader);
            int before = segmentsStanding(2);
            r.closed = true;
            return segmentsStanding(2) - before;
        }

        long tick(int n) {
            argument(n >= 0 && n <= 10000 && now + n <= 1000000000);
            int before = readersGoingOn(true);
            now += n;
            return before - readersGoingOn(true);
        }

        long told(int what) {
            index(what >= 0 && what <= 11);
            return new int[] {
                things.size(), fresh(), segments, segmentsStanding(0), segmentsStanding(1), segmentsStanding(2),
                views.size(), viewsGoingOn(), readers.size(), readersGoingOn(false), now, page.size(),
            }[what];
        }
    }

    /** What a run is rich in: how often each call comes, by the place of the call in NAMES. */
    private static final String[] NAMES = {
        "add", "drop", "commit", "merge", "object", "segment", "view", "letGo", "state", "size", "hit", "place", "groups",
        "group", "counted", "best", "cursor", "iterator", "take", "page", "next", "left", "close", "tick", "told",
    };
    private static final int[][] RICH = {
        {30, 8, 8, 3, 4, 5, 5, 4, 3, 3, 6, 6, 3, 4, 4, 6, 6, 6, 12, 6, 12, 4, 3, 4, 5},
        {250, 4, 3, 1, 3, 2, 3, 1, 2, 2, 8, 8, 3, 8, 8, 8, 5, 5, 12, 8, 20, 4, 1, 1, 3},
        {60, 20, 50, 3, 4, 8, 12, 9, 4, 3, 2, 2, 2, 2, 2, 2, 5, 5, 3, 1, 5, 3, 4, 3, 9},
        {20, 3, 5, 2, 2, 4, 6, 2, 4, 3, 2, 2, 2, 2, 2, 2, 30, 30, 15, 5, 20, 8, 9, 5, 9},
        {15, 25, 12, 6, 4, 9, 25, 12, 8, 4, 2, 2, 2, 2, 2, 2, 6, 6, 6, 2, 8, 4, 6, 6, 12},
    };

    private final Random random;
    private final Expect expect;
    private final Model model = new Model();
    private final GroupCursors made = new GroupCursors();
    private final int[] rich;
    private final int spread;
    private final int longStep;

    private ModelTest(Expect expect, int run) {
        this.expect = expect;
        random = new Random(run);
        rich = RICH[run % RICH.length];
        spread = 1 + random.nextInt(run % 3 == 0 ? 300 : 12);
        longStep = 1 + random.nextInt(12);
    }

    private int oneOf(int many) {
        int chance = random.nextInt(40);
        if (chance == 0) {
            return new int[] {-1, -2, many, many + 1, Integer.MAX_VALUE, Integer.MIN_VALUE}[random.nextInt(6)];
        }
        return chance < 6 && many > 0 ? many - 1 : random.nextInt(Math.max(1, many));
    }

    private long value() {
        int chance = random.nextInt(20);
        if (chance == 0) {
            return new long[] {Long.MIN_VALUE, Long.MAX_VALUE, -1, 0}[random.nextInt(4)];
        }
        return chance < 3 ? random.nextLong() : random.nextInt(spread) - spread / 2;
    }

    private String chosenName() {
        int all = 0;
        for (int many : rich) {
            all += many;
        }
        int at = random.nextInt(all);
        for (int i = 0; i < rich.length; i++) {
            at -= rich[i];
            if (at < 0) {
                return NAMES[i];
            }
        }
        return "told";
    }

    /** The number of a group may be wrong or right: the model knows how many there are. */
    private int someGroup(int view) {
        int many = view >= 0 && view < model.views.size() ? model.groupsOf(view, 0, 0).size() : 1;
        return oneOf(many);
    }

    static String outcome(Expect.Call call) {
        try {
            return String.valueOf(call.answer());
        } catch (RuntimeException e) {
            return "throws." + e.getClass().getName();
        }
    }

    private void both(String call, Expect.Call real, Expect.Call due) {
        String want = outcome(due);
        String got = outcome(real);
        if (!got.equals(want)) {
            expect.report(call, got, want);
        }
    }

    private void oneCall() {
        String name = chosenName();
        int view = oneOf(model.views.size());
        int reader = oneOf(model.readers.size());
        int thing = oneOf(model.things.size());
        int kind = oneOf(3);
        long seed = random.nextBoolean() ? random.nextInt(3) : value();
        switch (name) {
            case "add", "drop", "commit", "merge", "object", "segment" -> changeOrAsk(name, thing);
            case "view", "letGo", "state", "size" -> viewCall(name, view);
            case "hit", "place", "groups", "group", "counted", "best" -> orderCall(name, view, kind, seed, thing);
            case "cursor", "iterator" -> openCall(name, view, kind, seed);
            default -> readCall(name, reader);
        }
    }

    private void changeOrAsk(String name, int thing) {
        long group = random.nextInt(4) == 0 ? value() : random.nextInt(spread);
        long key = value();
        long sort = value();
        int n = oneOf(12);
        int segment = oneOf(model.segments);
        int what = oneOf(name.equals("object") ? 5 : 3);
        String call = name + " " + thing + " " + n + " " + segment + " " + what;
        switch (name) {
            case "add" -> both(call, () -> made.add(group, key, sort), () -> model.add(group, key, sort));
            case "drop" -> both(call, () -> made.drop(thing) ? 1 : 0, () -> model.drop(thing));
            case "commit" -> both(call, () -> made.commit(), () -> model.commit());
            case "merge" -> both(call, () -> made.merge(n), () -> model.merge(n));
            case "object" -> both(call, () -> made.object(thing, what), () -> model.object(thing, what));
            default -> both(call, () -> made.segment(segment, what), () -> model.segment(segment, what));
        }
    }

    private void viewCall(String name, int view) {
        String call = name + " " + view;
        switch (name) {
            case "view" -> both(call, () -> made.view(), () -> model.view());
            case "letGo" -> both(call, () -> made.letGo(view), () -> model.letGo(view));
            case "state" -> both(call, () -> made.state(view), () -> model.state(view));
            default -> both(call, () -> made.size(view), () -> model.thingsOf(view).size());
        }
    }

    private void orderCall(String name, int view, int kind, long seed, int thing) {
        int group = someGroup(view);
        int j = oneOf(random.nextBoolean() ? 2 : 6);
        int k = random.nextInt(3) == 0 ? oneOf(8) : thing;
        String call = name + " " + view + " " + kind + " " + seed + " " + thing + " " + group + " " + j + " " + k;
        switch (name) {
            case "hit" -> both(call, () -> made.hit(view, kind, seed, k), () -> model.hit(view, kind, seed, k));
            case "place" -> both(call, () -> made.place(view, kind, seed, thing), () -> model.place(view, kind, seed, thing));
            case "groups" -> both(call, () -> made.groups(view), () -> model.groupsOf(view, 0, 0).size());
            case "group" -> both(call, () -> made.group(view, kind, seed, group),
                () -> model.groupOf(view, kind, seed, group).get(0).group);
            case "counted" -> both(call, () -> made.counted(view, kind, seed, group),
                () -> model.groupOf(view, kind, seed, group).size());
            default -> both(call, () -> made.best(view, kind, seed, group, j), () -> model.best(view, kind, seed, group, j));
        }
    }

    private void openCall(String name, int view, int kind, long seed) {
        int slices = 1 + oneOf(8);
        int slice = oneOf(Math.max(1, Math.min(8, slices)));
        int keep = random.nextInt(20) == 0 ? oneOf(1002) : 1 + oneOf(longStep * 2);
        int group = random.nextBoolean() ? -1 : someGroup(view);
        String call = name + " " + view + " " + kind + " " + seed + " " + slices + " " + slice + " " + keep + " " + group;
        if (name.equals("cursor")) {
            both(call, () -> made.cursor(view, kind, seed, slices, slice, keep),
                () -> model.cursor(view, kind, seed, slices, slice, keep));
        } else {
            both(call, () -> made.iterator(view, kind, seed, group), () -> model.iterator(view, kind, seed, group));
        }
    }

    private void readCall(String name, int reader) {
        int n = random.nextInt(10) == 0 ? oneOf(52) : 1 + oneOf(6);
        int i = oneOf(model.page.size());
        int ticks = random.nextInt(30) == 0 ? oneOf(10002) : oneOf(longStep);
        int what = oneOf(12);
        String call = name + " " + reader + " " + n + " " + i + " " + ticks + " " + what;
        switch (name) {
            case "take" -> both(call, () -> made.take(reader, n), () -> model.take(reader, n));
            case "page" -> both(call, () -> made.page(i), () -> model.page(i));
            case "next" -> both(call, () -> made.next(reader), () -> model.next(reader));
            case "left" -> both(call, () -> made.left(reader), () -> model.left(reader));
            case "close" -> both(call, () -> made.close(reader), () -> model.close(reader));
            case "tick" -> both(call, () -> made.tick(ticks), () -> model.tick(ticks));
            default -> both(call, () -> made.told(what), () -> model.told(what));
        }
    }

    public static void main(String[] args) {
        Expect expect = new Expect();
        for (int run = 0; run < RUNS && expect.wrongOnes() == 0; run++) {
            ModelTest test = new ModelTest(expect, run);
            for (int i = 0; i < CALLS && expect.wrongOnes() == 0; i++) {
                test.oneCall();
            }
            if (expect.wrongOnes() > 0) {
                System.out.println("that was in run " + run);
            }
        }
        expect.due("runs with a wrong answer", 0, () -> expect.wrongOnes());
        expect.done();
    }
}
