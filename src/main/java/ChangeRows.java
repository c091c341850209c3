import java.util.Arrays;

/** Tables that follow others, the log of their changes, and a copy kept by changes. */
public final class ChangeRows {
    public static final int NONE = -1, BAD = -2, FULL = -3, NO = -4;

    private static final int TABLES = 12, KEYS = 64, LOGGED = 1500, GATHERED = 40, FACTOR = 1000;
    private static final int COPY = -1;

    private static final int SOURCE = 0, FILTER = 1, MAP = 2, FOLD = 3, JOIN = 4, MERGE = 5, BEST = 6, LOOK = 7;
    private static final int FOLD_COUNT = 0, FOLD_SUM = 1, FOLD_LEAST = 2, FOLD_GREATEST = 3, FOLD_KEY = 4;
    private static final int JOIN_BOTH = 0, JOIN_ALL = 1;
    private static final int COME = 0, OTHER = 1, GONE = 2;
    private static final int TAKEN = 0, IS_THERE = 1, NOT_THERE = 2, OTHER_THERE = 3;

    /* All rows and lists are made here once and used again, so that no call makes an object. */
    private final Table[] tables = new Table[TABLES];
    private int made = 0;
    private final Batch batch = new Batch();
    private final Changes log = new Changes(LOGGED);
    private final Changes lastTold = new Changes(TABLES * KEYS);
    private final Changes lastNet = new Changes(KEYS);
    private final Rows kept = new Rows();
    private final Rows earlier = new Rows();
    private final Rows later = new Rows();
    private final Rows nothing = new Rows();

    public ChangeRows() {
        for (int t = 0; t < TABLES; t++) {
            tables[t] = new Table();
        }
    }

    public int clear() {
        int were = made;
        made = 0;
        batch.close();
        log.reset();
        lastTold.reset();
        lastNet.reset();
        kept.reset();
        return were;
    }

    // ---- making tables

    public int source() {
        return make(SOURCE, NONE, NONE, 0L, 0L);
    }

    public int filter(int t, long low, long high) {
        if (!isTable(t) || low > high) {
            return BAD;
        }
        return make(FILTER, t, NONE, low, high);
    }

    public int map(int t, int a, int b) {
        if (!isTable(t) || !isWithin(a, -FACTOR, FACTOR) || !isWithin(b, -FACTOR, FACTOR)) {
            return BAD;
        }
        return make(MAP, t, NONE, a, b);
    }

    public int fold(int t, int kind, int g) {
        if (!isTable(t) || !isWithin(kind, FOLD_COUNT, FOLD_KEY) || !isWithin(g, 1, KEYS)) {
            return BAD;
        }
        return make(FOLD, t, NONE, kind, g);
    }

    public int join(int t, int u, int kind) {
        if (!isTable(t) || !isTable(u) || !isWithin(kind, JOIN_BOTH, JOIN_ALL)) {
            return BAD;
        }
        return make(JOIN, t, u, kind, 0L);
    }

    public int merge(int t, int u) {
        if (!isTable(t) || !isTable(u)) {
            return BAD;
        }
        return make(MERGE, t, u, 0L, 0L);
    }

    public int best(int t, int n) {
        if (!isTable(t) || !isWithin(n, 1, KEYS)) {
            return BAD;
        }
        return make(BEST, t, NONE, n, 0L);
    }

    public int look(int t, int u) {
        if (!isTable(t) || !isTable(u)) {
            return BAD;
        }
        return make(LOOK, t, u, 0L, 0L);
    }

    // ---- changing sources

    public int put(int t, int key, long value) {
        if (!isSource(t) || !isKey(key)) {
            return BAD;
        }
        return alter(t, key, true, value);
    }

    public int remove(int t, int key) {
        if (!isSource(t) || !isKey(key)) {
            return BAD;
        }
        return alter(t, key, false, 0L);
    }

    public int begin() {
        if (batch.isOpen) {
            return NO;
        }
        batch.open();
        return 1;
    }

    public int end() {
        if (!batch.isOpen) {
            return NO;
        }
        for (int i = 0; i < batch.size; i++) {
            tables[batch.table[i]].next.write(batch.key[i], batch.stays[i], batch.value[i]);
        }
        int changes = settle();
        if (changes != FULL) {
            batch.close();
        }
        return changes;
    }

    public int drop() {
        if (!batch.isOpen) {
            return NO;
        }
        int gathered = batch.size;
        batch.close();
        return gathered;
    }

    // ---- changes that were told, logged, or are the net of a part of the log

    public int told() {
        return lastTold.size;
    }

    public int change(int where, int i, int what) {
        Changes list = changesOf(where);
        if (list == null || !isWithin(i, 0, list.size - 1)) {
            return BAD;
        }
        switch (what) {
            case 0: return list.tableOf(i);
            case 1: return list.sortOf(i);
            case 2: return list.keyOf(i);
            default: return BAD;
        }
    }

    public long value(int where, int i, int which) {
        Changes list = changesOf(where);
        if (list == null || !isWithin(i, 0, list.size - 1)) {
            return 0L;
        }
        switch (which) {
            case 0: return list.old[i];
            case 1: return list.now[i];
            default: return 0L;
        }
    }

    public int logged() {
        return log.size;
    }

    public int forget() {
        int had = log.size;
        log.reset();
        for (int t = 0; t < made; t++) {
            tables[t].base.become(tables[t].now);
        }
        return had;
    }

    public int net(int t, int from, int to) {
        if (!isTable(t) || !isWithin(to, 0, log.size) || !isWithin(from, 0, to)) {
            return BAD;
        }
        rowsBehind(t, from, earlier);
        rowsBehind(t, to, later);
        lastNet.reset();
        lastNet.addSteps(t, earlier, later, earlier.differing(later));
        return lastNet.size;
    }

    // ---- the copy

    public int copy(int t, int n) {
        if (!isTable(t) || !isWithin(n, 0, log.size)) {
            return BAD;
        }
        rowsBehind(t, n, kept);
        return kept.size();
    }

    public int take(int sort, int key, long old, long now) {
        if (!isWithin(sort, COME, GONE) || !isKey(key)) {
            return BAD;
        }
        int broken = brokenBy(sort, key, old);
        if (broken == TAKEN) {
            kept.write(key, sort != GONE, now);
        }
        return broken;
    }

    public int same(int t) {
        if (!isTable(t)) {
            return BAD;
        }
        return kept.differing(tables[t].now) == 0L ? 1 : 0;
    }

    // ---- looking

    public int has(int t, int key) {
        if (!isTableOrCopy(t) || !isKey(key)) {
            return BAD;
        }
        return rowsOf(t).holds(key) ? 1 : 0;
    }

    public long at(int t, int key) {
        if (!isTableOrCopy(t) || !isKey(key)) {
            return 0L;
        }
        return rowsOf(t).values[key];
    }

    public int of(int t, int what) {
        if (!isTable(t)) {
            return BAD;
        }
        Table table = tables[t];
        switch (what) {
            case 0: return table.sort;
            case 1: return table.t;
            case 2: return table.u;
            case 3: return table.now.size();
            default: return BAD;
        }
    }

    public int count(int what) {
        switch (what) {
            case 0: return made;
            case 1: return batch.isOpen ? batch.size : NONE;
            case 2: return kept.size();
            default: return BAD;
        }
    }

    // ---- bounds

    private static boolean isWithin(int number, int least, int greatest) {
        return number >= least && number <= greatest;
    }

    private static boolean isKey(int key) {
        return isWithin(key, 0, KEYS - 1);
    }

    private boolean isTable(int t) {
        return isWithin(t, 0, made - 1);
    }

    private boolean isTableOrCopy(int t) {
        return t == COPY || isTable(t);
    }

    private boolean isSource(int t) {
        return isTable(t) && tables[t].sort == SOURCE;
    }

    // ---- how calls are carried out

    private Rows rowsOf(int t) {
        return t == COPY ? kept : tables[t].now;
    }

    /** The list that a number names; null if it names none. */
    private Changes changesOf(int where) {
        switch (where) {
            case 0: return lastTold;
            case 1: return log;
            case 2: return lastNet;
            default: return null;
        }
    }

    private int make(int sort, int t, int u, long first, long second) {
        if (batch.isOpen) {
            return NO;
        }
        if (made >= TABLES) {
            return FULL;
        }
        Table table = tables[made];
        table.define(sort, t, u, first, second);
        table.derive(nextOf(t), nextOf(u));
        table.now.become(table.next);
        table.base.become(table.next);
        made++;
        return made - 1;
    }

    private int alter(int t, int key, boolean stays, long value) {
        if (batch.isOpen) {
            return batch.gather(t, key, stays, value);
        }
        tables[t].next.write(key, stays, value);
        return settle();
    }

    /** Makes the next rows of sources, and all that follows from them, the rows there are; or takes them back. */
    private int settle() {
        int changes = follow();
        if (changes > LOGGED - log.size) {
            takeBack();
            return FULL;
        }
        tell();
        return changes;
    }

    /* A table follows only tables with lesser numbers, so one pass in their order reaches all. */
    private int follow() {
        int changes = 0;
        for (int t = 0; t < made; t++) {
            Table table = tables[t];
            if (isMoved(table.t) || isMoved(table.u)) {
                table.derive(nextOf(table.t), nextOf(table.u));
            }
            table.moved = table.now.differing(table.next);
            changes += Long.bitCount(table.moved);
        }
        return changes;
    }

    private boolean isMoved(int t) {
        return isTable(t) && tables[t].moved != 0L;
    }

    private Rows nextOf(int t) {
        return isTable(t) ? tables[t].next : nothing;
    }

    private void takeBack() {
        for (int t = 0; t < made; t++) {
            tables[t].next.become(tables[t].now);
        }
    }

    private void tell() {
        lastTold.reset();
        for (int t = 0; t < made; t++) {
            Table table = tables[t];
            if (table.moved != 0L) {
                lastTold.addSteps(t, table.now, table.next, table.moved);
                table.now.become(table.next);
            }
        }
        log.addAll(lastTold);
    }

    /** Sets rows to those of a table behind the first n changes of the log. */
    private void rowsBehind(int t, int n, Rows rows) {
        rows.become(tables[t].base);
        for (int i = 0; i < n; i++) {
            if (log.tableOf(i) == t) {
                rows.write(log.keyOf(i), log.sortOf(i) != GONE, log.now[i]);
            }
        }
    }

    private int brokenBy(int sort, int key, long old) {
        if (sort == COME) {
            return kept.holds(key) ? IS_THERE : TAKEN;
        }
        if (!kept.holds(key)) {
            return NOT_THERE;
        }
        return kept.values[key] == old ? TAKEN : OTHER_THERE;
    }

    /** For some of the keys a value; where there is none, values has 0. */
    private static final class Rows {
        long present = 0L;
        final long[] values = new long[KEYS];

        boolean holds(int key) {
            return (present >>> key & 1L) != 0L;
        }

        int size() {
            return Long.bitCount(present);
        }

        void reset() {
            present = 0L;
            Arrays.fill(values, 0L);
        }

        void become(Rows other) {
            present = other.present;
            System.arraycopy(other.values, 0, values, 0, KEYS);
        }

        void set(int key, long value) {
            present |= 1L << key;
            values[key] = value;
        }

        void write(int key, boolean stays, long value) {
            if (stays) {
                set(key, value);
            } else {
                present &= ~(1L << key);
                values[key] = 0L;
            }
        }

        /** A bit for each key of which one alone has a row, or both have other values. */
        long differing(Rows other) {
            long keys = present ^ other.present;
            for (int key = 0; key < KEYS; key++) {
                if (values[key] != other.values[key]) {
                    keys |= 1L << key;
                }
            }
            return keys;
        }
    }

    /** What a table is made of. Its next rows are its rows, but while a call is carried out. */
    private static final class Table {
        int sort = SOURCE;
        int t = NONE;
        int u = NONE;
        /* What the call that made it gave beside tables, in its order: low, high; a, b; kind, g; kind; n. */
        long first = 0L;
        long second = 0L;
        final Rows now = new Rows();
        final Rows next = new Rows();
        final Rows base = new Rows();
        /* A best's keys of rows by value, kept so that it is made once. */
        private final int[] order = new int[KEYS];
        /* The keys whose rows differ between now and next in the call that is carried out. */
        long moved = 0L;

        void define(int itsSort, int itsT, int itsU, long itsFirst, long itsSecond) {
            sort = itsSort;
            t = itsT;
            u = itsU;
            first = itsFirst;
            second = itsSecond;
        }

        void derive(Rows from, Rows beside) {
            next.reset();
            switch (sort) {
                case FILTER: deriveFilter(from); break;
                case MAP: deriveMap(from); break;
                case FOLD: deriveFold(from); break;
                case JOIN: deriveJoin(from, beside); break;
                case MERGE: deriveMerge(from, beside); break;
                case BEST: deriveBest(from); break;
                case LOOK: deriveLook(from, beside); break;
                default: break;
            }
        }

        private void deriveFilter(Rows from) {
            for (int key = 0; key < KEYS; key++) {
                long value = from.values[key];
                if (from.holds(key) && value >= first && value <= second) {
                    next.set(key, value);
                }
            }
        }

        private void deriveMap(Rows from) {
            for (int key = 0; key < KEYS; key++) {
                if (from.holds(key)) {
                    next.set(key, first * from.values[key] + second);
                }
            }
        }

        private void deriveFold(Rows from) {
            int group = 0;
            for (int key = 0; key < KEYS; key++) {
                if (from.holds(key)) {
                    next.set(group, folded(!next.holds(group), next.values[group], key, from.values[key]));
                }
                group = group + 1 < second ? group + 1 : 0;
            }
        }

        /* Keys come in their order, so the last one of a group is its greatest. */
        private long folded(boolean isFirst, long soFar, int key, long value) {
            switch ((int) first) {
                case FOLD_COUNT: return soFar + 1L;
                case FOLD_SUM: return soFar + value;
                case FOLD_LEAST: return isFirst || value < soFar ? value : soFar;
                case FOLD_GREATEST: return isFirst || value > soFar ? value : soFar;
                default: return key;
            }
        }

        private void deriveJoin(Rows from, Rows beside) {
            for (int key = 0; key < KEYS; key++) {
                if (from.holds(key) && (beside.holds(key) || first == JOIN_ALL)) {
                    next.set(key, from.values[key] + beside.values[key]);
                }
            }
        }

        private void deriveMerge(Rows from, Rows beside) {
            for (int key = 0; key < KEYS; key++) {
                if (from.holds(key)) {
                    next.set(key, from.values[key]);
                } else if (beside.holds(key)) {
                    next.set(key, beside.values[key]);
                }
            }
        }

        private void deriveBest(Rows from) {
            int size = 0;
            for (int key = 0; key < KEYS; key++) {
                if (from.holds(key)) {
                    insertKey(key, from.values, size);
                    size++;
                }
            }
            for (int i = 0; i < size && i < first; i++) {
                next.set(order[i], from.values[order[i]]);
            }
        }

        /* Keys come in their order, so one that is equal to another stays behind the lesser key. */
        private void insertKey(int key, long[] values, int size) {
            int place = size;
            while (place > 0 && values[order[place - 1]] < values[key]) {
                order[place] = order[place - 1];
                place--;
            }
            order[place] = key;
        }

        private void deriveLook(Rows from, Rows beside) {
            for (int key = 0; key < KEYS; key++) {
                int seen = (int) (from.values[key] & (KEYS - 1));
                if (from.holds(key) && beside.holds(seen)) {
                    next.set(key, beside.values[seen]);
                }
            }
        }
    }

    /** Changes in their order, as many as it has room for. */
    private static final class Changes {
        int size = 0;
        /* Table, sort and key in one number, since all lists of all objects share little room. */
        private final int[] spot;
        final long[] old;
        final long[] now;

        Changes(int room) {
            int length = Math.max(room, 0);
            spot = new int[length];
            old = new long[length];
            now = new long[length];
        }

        void reset() {
            size = 0;
        }

        int tableOf(int i) {
            return spot[i] >> 8;
        }

        int sortOf(int i) {
            return spot[i] >> 6 & 3;
        }

        int keyOf(int i) {
            return spot[i] & 63;
        }

        /** Adds what leads from some rows of a table to others, for the keys that differ. */
        void addSteps(int table, Rows from, Rows to, long keys) {
            for (int key = 0; key < KEYS; key++) {
                if ((keys >>> key & 1L) != 0L && size < spot.length) {
                    int sort = !from.holds(key) ? COME : to.holds(key) ? OTHER : GONE;
                    spot[size] = table << 8 | sort << 6 | key;
                    old[size] = from.values[key];
                    now[size] = to.values[key];
                    size++;
                }
            }
        }

        void addAll(Changes more) {
            int count = Math.min(more.size, spot.length - size);
            System.arraycopy(more.spot, 0, spot, size, count);
            System.arraycopy(more.old, 0, old, size, count);
            System.arraycopy(more.now, 0, now, size, count);
            size += count;
        }
    }

    /** Puts and removes that wait for the batch's end. */
    private static final class Batch {
        boolean isOpen = false;
        int size = 0;
        final int[] table = new int[GATHERED];
        final int[] key = new int[GATHERED];
        final boolean[] stays = new boolean[GATHERED];
        final long[] value = new long[GATHERED];

        void open() {
            isOpen = true;
            size = 0;
        }

        void close() {
            isOpen = false;
        }

        /** How many it has gathered then, or FULL. */
        int gather(int t, int itsKey, boolean itStays, long itsValue) {
            if (size >= GATHERED) {
                return FULL;
            }
            table[size] = t;
            key[size] = itsKey;
            stays[size] = itStays;
            value[size] = itsValue;
            size++;
            return size;
        }
    }
}
