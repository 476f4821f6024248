import java.util.Arrays;
import java.util.NoSuchElementException;

/**
 * Objects in groups, seen by views that are held, read by cursors and iterators.
 * The words in capitals are those of the document, which numbers the promises.
 */
public final class GroupCursors {
    public static final int FULL = -4;

    private static final int MOST_OBJECTS = 300;
    private static final int MOST_SEGMENTS = 40;
    private static final int MOST_VIEWS = 30;
    private static final int MOST_READERS = 60;
    private static final int MOST_SLICES = 8;
    private static final int MOST_KEEP = 1000;
    private static final int MOST_TAKEN = 50;
    private static final int MOST_TICKS = 10000;
    private static final int LAST_NOW = 1000000000;

    private static final int NONE = -1;
    private static final int ALL_GROUPS = -1;
    private static final int NO_KEEP = 0;

    private static final int LESSER_SORT = 0;
    private static final int GREATER_SORT = 1;
    private static final int LESSER_MIX = 2;

    private static final int LIVE = 0;
    private static final int KEPT = 1;
    private static final int FREED = 2;

    private static final int OPEN = 0;
    private static final int HELD = 1;
    private static final int ENDED = 2;

    private static final long SIGN = 0x8000000000000000L;

    private final Store store = new Store();
    private final Segments segments = new Segments();
    private final Ranking ranking = new Ranking();
    private final View[] views = new View[MOST_VIEWS];
    private final Reader[] readers = new Reader[MOST_READERS];
    private final int[] pageRow = new int[MOST_TAKEN];
    private int viewCount = 0;
    private int readerCount = 0;
    private int pageCount = 0;
    private int now = 0;

    public GroupCursors() {
    }

    public int add(long group, long key, long sort) {
        return store.put(group, key, sort);
    }

    public boolean drop(int object) throws IndexOutOfBoundsException {
        if (!store.has(object)) {
            throw new IndexOutOfBoundsException("no such object");
        }
        if (store.isDropped(object)) {
            return false;
        }
        store.markDropped(object);
        segments.lose(store.segmentOf(object));
        return true;
    }

    public int commit() {
        int fresh = store.countFresh();
        if (fresh == 0) {
            return 0;
        }
        if (segments.isFull()) {
            return FULL;
        }
        store.settleFresh(segments.make(fresh));
        return fresh;
    }

    public int merge(int n) {
        if (segments.countSmall(n) < 2) {
            return 0;
        }
        if (segments.isFull()) {
            return FULL;
        }
        int target = segments.make(0);
        for (int i = 0; i < store.count(); i++) {
            if (!store.isDropped(i) && segments.isSmall(store.segmentOf(i), n)) {
                store.moveTo(i, target);
            }
        }
        return segments.pourSmall(n, target);
    }

    public long object(int object, int what) throws IndexOutOfBoundsException {
        if (!store.has(object)) {
            throw new IndexOutOfBoundsException("no such object");
        }
        switch (what) {
            case 0:
                return store.groupName(object);
            case 1:
                return store.keyOf(object);
            case 2:
                return store.sortOf(object);
            case 3:
                return store.segmentOf(object);
            case 4:
                return store.isDropped(object) ? 1 : 0;
            default:
                throw new IndexOutOfBoundsException("no such thing of an object");
        }
    }

    public int segment(int segment, int what) throws IndexOutOfBoundsException {
        if (!segments.has(segment)) {
            throw new IndexOutOfBoundsException("no such segment");
        }
        switch (what) {
            case 0:
                return segments.membersOf(segment);
            case 1:
                return segments.standingOf(segment);
            case 2:
                return segments.watchersOf(segment);
            default:
                throw new IndexOutOfBoundsException("no such thing of a segment");
        }
    }

    public int view() {
        if (viewCount >= views.length) {
            return FULL;
        }
        int[] objects = store.settled();
        boolean[] seen = segments.watchLive();
        views[viewCount] = new View(objects, ranking.countGroups(store, objects), seen);
        viewCount++;
        return viewCount - 1;
    }

    public int letGo(int view) throws IndexOutOfBoundsException, IllegalStateException {
        View v = viewAt(view);
        if (v.standing() != OPEN) {
            throw new IllegalStateException("the view is not open");
        }
        v.hold();
        return endIfUnread(v);
    }

    public int state(int view) throws IndexOutOfBoundsException {
        return viewAt(view).standing();
    }

    public int size(int view) throws IndexOutOfBoundsException {
        return viewAt(view).objectCount();
    }

    public int hit(int view, int kind, long seed, int k) throws IndexOutOfBoundsException, IllegalArgumentException {
        View v = viewAt(view);
        if (k < 0 || k >= v.objectCount()) {
            throw new IndexOutOfBoundsException("no such hit");
        }
        checkKind(kind);
        ranking.arrange(store, v, kind, seed);
        return ranking.at(k);
    }

    public int place(int view, int kind, long seed, int object) throws IndexOutOfBoundsException, IllegalArgumentException {
        View v = viewAt(view);
        if (!store.has(object)) {
            throw new IndexOutOfBoundsException("no such object");
        }
        checkKind(kind);
        ranking.arrange(store, v, kind, seed);
        return ranking.placeOf(object);
    }

    public int groups(int view) throws IndexOutOfBoundsException {
        return viewAt(view).groupCount();
    }

    public long group(int view, int kind, long seed, int k) throws IndexOutOfBoundsException, IllegalArgumentException {
        rankGroup(viewAt(view), kind, seed, k);
        return store.groupName(ranking.at(0));
    }

    public int counted(int view, int kind, long seed, int k) throws IndexOutOfBoundsException, IllegalArgumentException {
        rankGroup(viewAt(view), kind, seed, k);
        return ranking.count();
    }

    public int best(int view, int kind, long seed, int k, int j) throws IndexOutOfBoundsException, IllegalArgumentException {
        rankGroup(viewAt(view), kind, seed, k);
        if (j < 0 || j >= ranking.count()) {
            throw new IndexOutOfBoundsException("no such object of the group");
        }
        return ranking.at(j);
    }

    public int cursor(int view, int kind, long seed, int slices, int slice, int keep)
            throws IndexOutOfBoundsException, IllegalArgumentException, IllegalStateException {
        View v = viewAt(view);
        checkKind(kind);
        if (slices < 1 || slices > MOST_SLICES || slice < 0 || slice >= slices) {
            throw new IllegalArgumentException("no such slice");
        }
        if (keep < 1 || keep > MOST_KEEP) {
            throw new IllegalArgumentException("no such keep");
        }
        if (v.standing() != OPEN) {
            throw new IllegalStateException("the view is not open");
        }
        ranking.arrange(store, v, kind, seed);
        ranking.keepSlice(slices, slice);
        return openReader(v, keep);
    }

    public int iterator(int view, int kind, long seed, int k)
            throws IndexOutOfBoundsException, IllegalArgumentException, IllegalStateException {
        View v = viewAt(view);
        if (k == ALL_GROUPS) {
            checkKind(kind);
            ranking.arrange(store, v, kind, seed);
        } else {
            rankGroup(v, kind, seed, k);
        }
        if (v.standing() != OPEN) {
            throw new IllegalStateException("the view is not open");
        }
        return openReader(v, NO_KEEP);
    }

    public int take(int reader, int n) throws IndexOutOfBoundsException, IllegalArgumentException {
        Reader r = readerAt(reader);
        if (n < 1 || n > MOST_TAKEN) {
            throw new IllegalArgumentException("not so many at once");
        }
        if (!r.isCursor()) {
            throw new IllegalArgumentException("it is an iterator");
        }
        if (r.hasEnded()) {
            return NONE;
        }
        r.renew(now);
        pageCount = Math.min(n, r.remaining());
        for (int i = 0; i < pageCount; i++) {
            pageRow[i] = r.give();
        }
        return pageCount;
    }

    public int page(int i) throws IndexOutOfBoundsException {
        if (i < 0 || i >= pageCount) {
            throw new IndexOutOfBoundsException("the page has no such object");
        }
        return pageRow[i];
    }

    public int next(int reader) throws IndexOutOfBoundsException, IllegalArgumentException, NoSuchElementException {
        Reader r = readerAt(reader);
        if (r.isCursor()) {
            throw new IllegalArgumentException("it is a cursor");
        }
        if (r.hasEnded()) {
            throw new NoSuchElementException("the iterator has ended");
        }
        int given = r.give();
        if (r.remaining() == 0) {
            endReader(r);
        }
        return given;
    }

    public int left(int reader) throws IndexOutOfBoundsException {
        Reader r = readerAt(reader);
        return r.hasEnded() ? NONE : r.remaining();
    }

    public int close(int reader) throws IndexOutOfBoundsException {
        Reader r = readerAt(reader);
        return r.hasEnded() ? 0 : endReader(r);
    }

    public int tick(int n) throws IllegalArgumentException {
        if (n < 0 || n > MOST_TICKS || n > LAST_NOW - now) {
            throw new IllegalArgumentException("not so many ticks");
        }
        now += n;
        int ending = 0;
        for (int i = 0; i < readerCount; i++) {
            Reader r = readers[i];
            if (r != null && r.isOverdue(now)) {
                endReader(r);
                ending++;
            }
        }
        return ending;
    }

    public int told(int what) throws IndexOutOfBoundsException {
        switch (what) {
            case 0:
                return store.count();
            case 1:
                return store.countFresh();
            case 2:
                return segments.count();
            case 3:
                return segments.countStanding(LIVE);
            case 4:
                return segments.countStanding(KEPT);
            case 5:
                return segments.countStanding(FREED);
            case 6:
                return viewCount;
            case 7:
                return countViewsGoingOn();
            case 8:
                return readerCount;
            case 9:
                return countReadersGoingOn();
            case 10:
                return now;
            case 11:
                return pageCount;
            default:
                throw new IndexOutOfBoundsException("no such thing to tell");
        }
    }

    private View viewAt(int number) {
        if (number < 0 || number >= viewCount) {
            throw new IndexOutOfBoundsException("no such view");
        }
        View v = views[number];
        if (v == null) {
            throw new IndexOutOfBoundsException("no such view");
        }
        return v;
    }

    private Reader readerAt(int number) {
        if (number < 0 || number >= readerCount) {
            throw new IndexOutOfBoundsException("no such reader");
        }
        Reader r = readers[number];
        if (r == null) {
            throw new IndexOutOfBoundsException("no such reader");
        }
        return r;
    }

    private static void checkKind(int kind) {
        if (kind < LESSER_SORT || kind > LESSER_MIX) {
            throw new IllegalArgumentException("no such kind");
        }
    }

    /** Leaves the objects of GROUP k in the ranking, in the ORDER. */
    private void rankGroup(View v, int kind, long seed, int k) {
        if (k < 0 || k >= v.groupCount()) {
            throw new IndexOutOfBoundsException("no such group");
        }
        checkKind(kind);
        ranking.arrange(store, v, kind, seed);
        ranking.keepGroup(ranking.groupAt(k));
    }

    /** The new READER has what the ranking holds; keep is NO_KEEP for an ITERATOR. */
    private int openReader(View v, int keep) {
        if (readerCount >= readers.length) {
            return FULL;
        }
        Reader r = new Reader(v, ranking.copied(), keep, now);
        readers[readerCount] = r;
        readerCount++;
        v.gainReader();
        if (!r.isCursor() && r.remaining() == 0) {
            endReader(r);
        }
        return readerCount - 1;
    }

    /** Ends a READER that goes on; answers how many SEGMENTS are FREED by that. */
    private int endReader(Reader r) {
        r.finish();
        r.owner().loseReader();
        return endIfUnread(r.owner());
    }

    /** Ends a VIEW that is HELD for no one; answers how many SEGMENTS are FREED by that. */
    private int endIfUnread(View v) {
        if (v.standing() != HELD || v.isRead()) {
            return 0;
        }
        v.finish();
        return segments.unwatch(v.seen());
    }

    private int countViewsGoingOn() {
        int many = 0;
        for (int i = 0; i < viewCount; i++) {
            View v = views[i];
            if (v != null && v.standing() != ENDED) {
                many++;
            }
        }
        return many;
    }

    private int countReadersGoingOn() {
        int many = 0;
        for (int i = 0; i < readerCount; i++) {
            Reader r = readers[i];
            if (r != null && !r.hasEnded()) {
                many++;
            }
        }
        return many;
    }

    /** The MIX of a KEY by a seed. */
    private static long mix(long key, long seed) {
        long z = key ^ seed * 0x9E3779B97F4A7C15L;
        z = (z ^ z >>> 30) * 0xBF58476D1CE4E5B9L;
        z = (z ^ z >>> 27) * 0x94D049BB133111EBL;
        return z ^ z >>> 31;
    }

    /** The remainder of a number without sign: halved first, so that Java's signed % never sees a negative one. */
    private static long remainder(long bits, int divisor) {
        if (divisor < 1) {
            return 0;
        }
        return ((bits >>> 1) % divisor * 2 + (bits & 1)) % divisor;
    }

    /** The objects, each with the number of its GROUP: groups are numbered so that a row can mark them. */
    private static final class Store {
        private final int[] groups = new int[MOST_OBJECTS];
        private final long[] keys = new long[MOST_OBJECTS];
        private final long[] sorts = new long[MOST_OBJECTS];
        private final int[] homes = new int[MOST_OBJECTS];
        private final boolean[] dropped = new boolean[MOST_OBJECTS];
        private final long[] groupNames = new long[MOST_OBJECTS];
        private int count = 0;
        private int groupCount = 0;

        int count() {
            return count;
        }

        boolean has(int object) {
            return object >= 0 && object < count;
        }

        int put(long group, long key, long sort) {
            if (count >= MOST_OBJECTS) {
                return FULL;
            }
            groups[count] = groupNumber(group);
            keys[count] = key;
            sorts[count] = sort;
            homes[count] = NONE;
            count++;
            return count - 1;
        }

        private int groupNumber(long name) {
            for (int i = 0; i < groupCount; i++) {
                if (groupNames[i] == name) {
                    return i;
                }
            }
            if (groupCount < groupNames.length) {
                groupNames[groupCount] = name;
                groupCount++;
            }
            return groupCount - 1;
        }

        int groupOf(int object) {
            return has(object) ? groups[object] : NONE;
        }

        long groupName(int object) {
            int number = groupOf(object);
            return number >= 0 && number < groupCount ? groupNames[number] : 0;
        }

        long keyOf(int object) {
            return has(object) ? keys[object] : 0;
        }

        long sortOf(int object) {
            return has(object) ? sorts[object] : 0;
        }

        int segmentOf(int object) {
            return has(object) ? homes[object] : NONE;
        }

        boolean isDropped(int object) {
            return has(object) && dropped[object];
        }

        void markDropped(int object) {
            if (has(object)) {
                dropped[object] = true;
            }
        }

        void moveTo(int object, int segment) {
            if (has(object)) {
                homes[object] = segment;
            }
        }

        /** NEW and not DROPPED: commit() leaves no such object without a SEGMENT. */
        private boolean isFresh(int object) {
            return segmentOf(object) == NONE && !isDropped(object);
        }

        int countFresh() {
            int many = 0;
            for (int i = 0; i < count; i++) {
                if (isFresh(i)) {
                    many++;
                }
            }
            return many;
        }

        void settleFresh(int segment) {
            for (int i = 0; i < count; i++) {
                if (isFresh(i)) {
                    homes[i] = segment;
                }
            }
        }

        private boolean isSettled(int object) {
            return segmentOf(object) != NONE && !isDropped(object);
        }

        private int countSettled() {
            int many = 0;
            for (int i = 0; i < count; i++) {
                if (isSettled(i)) {
                    many++;
                }
            }
            return many;
        }

        /** What a VIEW has that is opened now. */
        int[] settled() {
            int[] row = new int[countSettled()];
            int filled = 0;
            for (int i = 0; i < count && filled < row.length; i++) {
                if (isSettled(i)) {
                    row[filled] = i;
                    filled++;
                }
            }
            return row;
        }
    }

    /** Of each SEGMENT how many objects that are not DROPPED are in it, and how many VIEWS see it. */
    private static final class Segments {
        private final int[] members = new int[MOST_SEGMENTS];
        private final int[] watchers = new int[MOST_SEGMENTS];
        private int count = 0;

        int count() {
            return count;
        }

        boolean has(int segment) {
            return segment >= 0 && segment < count;
        }

        boolean isFull() {
            return count >= MOST_SEGMENTS;
        }

        int make(int size) {
            if (isFull()) {
                return NONE;
            }
            members[count] = size;
            count++;
            return count - 1;
        }

        int membersOf(int segment) {
            return has(segment) ? members[segment] : 0;
        }

        int watchersOf(int segment) {
            return has(segment) ? watchers[segment] : 0;
        }

        void lose(int segment) {
            if (has(segment)) {
                members[segment]--;
            }
        }

        int standingOf(int segment) {
            if (!has(segment)) {
                return FREED;
            }
            if (members[segment] > 0) {
                return LIVE;
            }
            return watchers[segment] > 0 ? KEPT : FREED;
        }

        int countStanding(int standing) {
            int many = 0;
            for (int i = 0; i < count; i++) {
                if (standingOf(i) == standing) {
                    many++;
                }
            }
            return many;
        }

        boolean isSmall(int segment, int n) {
            return membersOf(segment) > 0 && membersOf(segment) < n;
        }

        int countSmall(int n) {
            int many = 0;
            for (int i = 0; i < count; i++) {
                if (isSmall(i, n)) {
                    many++;
                }
            }
            return many;
        }

        /** Counts the members of all small SEGMENTS over to the target, which is empty yet, and so not small itself. */
        int pourSmall(int n, int target) {
            if (!has(target)) {
                return 0;
            }
            int poured = 0;
            for (int i = 0; i < count; i++) {
                if (isSmall(i, n)) {
                    poured += members[i];
                    members[i] = 0;
                }
            }
            members[target] = poured;
            return poured;
        }

        /** One VIEW more sees all LIVE ones: which they are. */
        boolean[] watchLive() {
            boolean[] seen = new boolean[count];
            for (int i = 0; i < seen.length; i++) {
                if (standingOf(i) == LIVE) {
                    seen[i] = true;
                    watchers[i]++;
                }
            }
            return seen;
        }

        /** The VIEW that saw these has ENDED: how many are FREED by that. */
        int unwatch(boolean[] seen) {
            int freed = 0;
            for (int i = 0; i < seen.length && i < count; i++) {
                if (seen[i]) {
                    watchers[i]--;
                    if (standingOf(i) == FREED) {
                        freed++;
                    }
                }
            }
            return freed;
        }
    }

    /**
     * Puts objects in an ORDER, in rows that are made once and used again by every call. What it must know of an object
     * it copies from the store: were it made with the store in hand, the outer constructor would give away a part of its object.
     */
    private static final class Ranking {
        private final long[] scores = new long[MOST_OBJECTS];
        private final long[] keys = new long[MOST_OBJECTS];
        private final int[] groups = new int[MOST_OBJECTS];
        private final boolean[] met = new boolean[MOST_OBJECTS];
        private int[] row = new int[MOST_OBJECTS];
        private int[] spare = new int[MOST_OBJECTS];
        private int count = 0;

        int count() {
            return count;
        }

        int at(int place) {
            return place >= 0 && place < count ? row[place] : NONE;
        }

        int placeOf(int object) {
            for (int i = 0; i < count; i++) {
                if (row[i] == object) {
                    return i;
                }
            }
            return NONE;
        }

        int[] copied() {
            return Arrays.copyOf(row, count);
        }

        /** Holds the HITS of a VIEW then, in the ORDER. */
        void arrange(Store store, View v, int kind, long seed) {
            fill(store, v, kind, seed);
            for (int width = 1; width < count; width *= 2) {
                for (int from = 0; from < count; from += 2 * width) {
                    joinRuns(from, Math.min(from + width, count), Math.min(from + 2 * width, count));
                }
                int[] joined = spare;
                spare = row;
                row = joined;
            }
        }

        private void fill(Store store, View v, int kind, long seed) {
            count = 0;
            for (int i = 0; i < v.objectCount() && count < row.length; i++) {
                int object = v.objectAt(i);
                if (hasRoomFor(object)) {
                    keys[object] = store.keyOf(object);
                    groups[object] = store.groupOf(object);
                    scores[object] = scoreOf(keys[object], store.sortOf(object), kind, seed);
                    row[count] = object;
                    count++;
                }
            }
        }

        private static boolean hasRoomFor(int object) {
            return object >= 0 && object < MOST_OBJECTS;
        }

        /** The lesser score comes first in every kind: a turned SORT puts the greater first, a turned sign leaves the MIX without one. */
        private static long scoreOf(long key, long sort, int kind, long seed) {
            if (kind == LESSER_SORT) {
                return sort;
            }
            if (kind == GREATER_SORT) {
                return ~sort;
            }
            return mix(key, seed) ^ SIGN;
        }

        private boolean comesBefore(int a, int b) {
            if (!hasRoomFor(a) || !hasRoomFor(b)) {
                return false;
            }
            if (scores[a] != scores[b]) {
                return scores[a] < scores[b];
            }
            if (keys[a] != keys[b]) {
                return keys[a] < keys[b];
            }
            return a < b;
        }

        private long keyOf(int object) {
            return hasRoomFor(object) ? keys[object] : 0;
        }

        private int groupOf(int object) {
            return hasRoomFor(object) ? groups[object] : NONE;
        }

        /** Joins two sorted runs of the row that lie side by side, into the spare row. */
        private void joinRuns(int from, int middle, int to) {
            int a = from;
            int b = middle;
            for (int i = from; i < to; i++) {
                if (a < middle && (b >= to || comesBefore(row[a], row[b]))) {
                    spare[i] = row[a];
                    a++;
                } else if (b < to) {
                    spare[i] = row[b];
                    b++;
                }
            }
        }

        private void forgetMet() {
            for (int i = 0; i < met.length; i++) {
                met[i] = false;
            }
        }

        /** Whether a group is met for the first time since they were forgotten. */
        private boolean isNewlyMet(int group) {
            if (group < 0 || group >= met.length || met[group]) {
                return false;
            }
            met[group] = true;
            return true;
        }

        int countGroups(Store store, int[] objects) {
            forgetMet();
            int many = 0;
            for (int i = 0; i < objects.length; i++) {
                if (isNewlyMet(store.groupOf(objects[i]))) {
                    many++;
                }
            }
            return many;
        }

        /** The number in the store of GROUP k by the ORDER in which the row is. */
        int groupAt(int k) {
            forgetMet();
            int passed = 0;
            for (int i = 0; i < count; i++) {
                int group = groupOf(row[i]);
                if (isNewlyMet(group)) {
                    if (passed == k) {
                        return group;
                    }
                    passed++;
                }
            }
            return NONE;
        }

        void keepGroup(int group) {
            int kept = 0;
            for (int i = 0; i < count; i++) {
                if (groupOf(row[i]) == group) {
                    row[kept] = row[i];
                    kept++;
                }
            }
            count = kept;
        }

        void keepSlice(int slices, int slice) {
            int kept = 0;
            for (int i = 0; i < count; i++) {
                if (remainder(mix(keyOf(row[i]), 0), slices) == slice) {
                    row[kept] = row[i];
                    kept++;
                }
            }
            count = kept;
        }
    }

    /** Its objects never change; when it is ENDED it answers as if it had none. */
    private static final class View {
        private final int[] objects;
        private final int groupCount;
        private final boolean[] seen;
        private int standing = OPEN;
        private int readersGoingOn = 0;

        View(int[] objects, int groupCount, boolean[] seen) {
            this.objects = objects;
            this.groupCount = groupCount;
            this.seen = seen;
        }

        int standing() {
            return standing;
        }

        int objectCount() {
            return standing == ENDED ? 0 : objects.length;
        }

        int objectAt(int i) {
            return i >= 0 && i < objects.length ? objects[i] : NONE;
        }

        int groupCount() {
            return standing == ENDED ? 0 : groupCount;
        }

        boolean[] seen() {
            return seen;
        }

        boolean isRead() {
            return readersGoingOn > 0;
        }

        void gainReader() {
            readersGoingOn++;
        }

        void loseReader() {
            readersGoingOn--;
        }

        void hold() {
            standing = HELD;
        }

        void finish() {
            standing = ENDED;
        }
    }

    /** A CURSOR, or (its keep is NO_KEEP) an ITERATOR; its hits are fixed when it is opened. */
    private static final class Reader {
        private final View owner;
        private final int[] hits;
        private final int keep;
        private int given = 0;
        private int end;
        private boolean ended = false;

        Reader(View owner, int[] hits, int keep, int now) {
            this.owner = owner;
            this.hits = hits;
            this.keep = keep;
            this.end = now + keep;
        }

        View owner() {
            return owner;
        }

        boolean isCursor() {
            return keep != NO_KEEP;
        }

        boolean hasEnded() {
            return ended;
        }

        boolean isOverdue(int now) {
            return isCursor() && !ended && now > end;
        }

        int remaining() {
            return hits.length - given;
        }

        void renew(int now) {
            end = now + keep;
        }

        void finish() {
            ended = true;
        }

        int give() {
            if (given >= hits.length) {
                return NONE;
            }
            given++;
            return hits[given - 1];
        }
    }
}
