import java.util.ArrayList;
import java.util.Comparator;
import java.util.List;
import java.util.Map;
import java.util.Random;
import java.util.TreeMap;

/** Long runs of calls, right and wrong ones, against a model that makes every table anew each time. */
public final class ModelTests extends Checks {
    private static final int RUNS = 3000;

    public static void main(String[] args) {
        for (int seed = 0; seed < RUNS; seed++) {
            about("run " + seed);
            new Run(seed).go();
        }
        finish(RUNS + " runs are as the model's");
    }

    private record Change(int table, int sort, int key, long old, long now) { }

    private record Def(int sort, int t, int u, long p, long q) { }

    private record Step(int table, int key, Long value) { }

    private static final class Model {
        List<Def> defs = new ArrayList<>();
        List<TreeMap<Integer, Long>> rows = new ArrayList<>();
        /* places.get(n).get(t): the rows of t behind the first n changes. */
        List<List<TreeMap<Integer, Long>>> places = new ArrayList<>(List.of(new ArrayList<>()));
        List<Change> log = new ArrayList<>();
        List<Change> told = new ArrayList<>();
        List<Change> net = new ArrayList<>();
        TreeMap<Integer, Long> copy = new TreeMap<>();
        List<Step> batch = null;

        boolean table(int t) {
            return t >= 0 && t < defs.size();
        }

        int make(boolean good, Def def) {
            if (!good || def.sort != 0 && !table(def.t) || def.u != NONE && !table(def.u)) {
                return BAD;
            }
            if (batch != null) {
                return NO;
            }
            if (defs.size() == TABLES) {
                return FULL;
            }
            defs.add(def);
            rows.add(def.sort == 0 ? new TreeMap<>() : derived(def, rows));
            for (List<TreeMap<Integer, Long>> place : places) {
                place.add(rows.get(rows.size() - 1));
            }
            return defs.size() - 1;
        }

        static TreeMap<Integer, Long> derived(Def def, List<TreeMap<Integer, Long>> all) {
            TreeMap<Integer, Long> t = all.get(def.t);
            TreeMap<Integer, Long> u = def.u == NONE ? null : all.get(def.u);
            TreeMap<Integer, Long> out = new TreeMap<>();
            if (def.sort == 3) {
                for (int k = 0; k < def.q; k++) {
                    fold(def, k, t, out);
                }
            } else if (def.sort == 6) {
                List<Map.Entry<Integer, Long>> sorted = new ArrayList<>(t.entrySet());
                sorted.sort(Map.Entry.<Integer, Long>comparingByValue(Comparator.reverseOrder())
                    .thenComparing(Map.Entry.comparingByKey()));
                sorted.stream().limit(def.p).forEach(e -> out.put(e.getKey(), e.getValue()));
            } else {
                t.forEach((key, v) -> {
                    Long made = single(def, key, v, u);
                    if (made != null) {
                        out.put(key, made);
                    }
                });
                if (def.sort == 5) {
                    u.forEach(out::putIfAbsent);
                }
            }
            return out;
        }

        static Long single(Def def, int key, long v, TreeMap<Integer, Long> u) {
            switch (def.sort) {
                case 1: return v < def.p || v > def.q ? null : v;
                case 2: return def.p * v + def.q;
                case 4: return u.containsKey(key) ? Long.valueOf(v + u.get(key)) : def.p == 1 ? v : null;
                case 5: return v;
                default: return u.get((int) Math.floorMod(v, 64L));
            }
        }

        static void fold(Def def, int k, TreeMap<Integer, Long> t, TreeMap<Integer, Long> out) {
            List<Integer> keys = t.keySet().stream().filter(key -> key % def.q == k).toList();
            if (keys.isEmpty()) {
                return;
            }
            List<Long> values = keys.stream().map(t::get).sorted().toList();
            long sum = values.stream().mapToLong(v -> v).sum();
            long[] folded = {keys.size(), sum, values.get(0), values.get(values.size() - 1), keys.get(keys.size() - 1)};
            out.put(k, folded[(int) def.p]);
        }

        static List<Change> steps(int table, TreeMap<Integer, Long> from, TreeMap<Integer, Long> to) {
            List<Change> list = new ArrayList<>();
            for (int key = 0; key < 64; key++) {
                Long a = from.get(key);
                Long b = to.get(key);
                if (a == null && b != null) {
                    list.add(new Change(table, 0, key, 0, b));
                } else if (a != null && b == null) {
                    list.add(new Change(table, 2, key, a, 0));
                } else if (a != null && !a.equals(b)) {
                    list.add(new Change(table, 1, key, a, b));
                }
            }
            return list;
        }

        int alter(int t, int key, Long value) {
            if (!table(t) || defs.get(t).sort != 0 || key < 0 || key > 63) {
                return BAD;
            }
            if (batch == null) {
                return apply(List.of(new Step(t, key, value)));
            }
            if (batch.size() == BATCH) {
                return FULL;
            }
            batch.add(new Step(t, key, value));
            return batch.size();
        }

        int apply(List<Step> made) {
            List<TreeMap<Integer, Long>> next = new ArrayList<>();
            List<Change> all = new ArrayList<>();
            for (int t = 0; t < defs.size(); t++) {
                TreeMap<Integer, Long> its = new TreeMap<>(rows.get(t));
                for (Step step : made) {
                    if (step.table == t && step.value != null) {
                        its.put(step.key, step.value);
                    } else if (step.table == t) {
                        its.remove(step.key);
                    }
                }
                next.add(defs.get(t).sort == 0 ? its : derived(defs.get(t), next));
                all.addAll(steps(t, rows.get(t), next.get(t)));
            }
            if (log.size() + all.size() > LOG) {
                return FULL;
            }
            rows = next;
            told = all;
            for (Change c : all) {
                log.add(c);
                List<TreeMap<Integer, Long>> place = new ArrayList<>(places.get(places.size() - 1));
                TreeMap<Integer, Long> its = new TreeMap<>(place.get(c.table));
                if (c.sort == 2) {
                    its.remove(c.key);
                } else {
                    its.put(c.key, c.now);
                }
                place.set(c.table, its);
                places.add(place);
            }
            return all.size();
        }

        int end() {
            if (batch == null) {
                return NO;
            }
            int changes = apply(batch);
            if (changes != FULL) {
                batch = null;
            }
            return changes;
        }

        int drop() {
            if (batch == null) {
                return NO;
            }
            int gathered = batch.size();
            batch = null;
            return gathered;
        }

        int forget() {
            int had = log.size();
            log = new ArrayList<>();
            places = new ArrayList<>(List.of(new ArrayList<>(rows)));
            return had;
        }

        int net(int t, int from, int to) {
            if (!table(t) || from < 0 || from > to || to > log.size()) {
                return BAD;
            }
            net = steps(t, places.get(from).get(t), places.get(to).get(t));
            return net.size();
        }

        int copy(int t, int n) {
            if (!table(t) || n < 0 || n > log.size()) {
                return BAD;
            }
            copy = new TreeMap<>(places.get(n).get(t));
            return copy.size();
        }

        int take(int sort, int key, long old, long now) {
            if (sort < 0 || sort > 2 || key < 0 || key > 63) {
                return BAD;
            }
            if (sort == 0 && copy.containsKey(key)) {
                return 1;
            }
            if (sort != 0 && !copy.containsKey(key)) {
                return 2;
            }
            if (sort != 0 && copy.get(key) != old) {
                return 3;
            }
            if (sort == 2) {
                copy.remove(key);
            } else {
                copy.put(key, now);
            }
            return 0;
        }

        Change at(int where, int i) {
            List<Change> list = where == 0 ? told : where == 1 ? log : where == 2 ? net : List.of();
            return i < 0 || i >= list.size() ? null : list.get(i);
        }

        int change(int where, int i, int what) {
            Change c = at(where, i);
            return c == null || what < 0 || what > 2 ? BAD : what == 0 ? c.table : what == 1 ? c.sort : c.key;
        }

        long value(int where, int i, int which) {
            Change c = at(where, i);
            return c == null ? 0 : which == 0 ? c.old : which == 1 ? c.now : 0;
        }

        int of(int t, int what) {
            if (!table(t) || what < 0 || what > 3) {
                return BAD;
            }
            Def def = defs.get(t);
            return new int[] {def.sort, def.t, def.u, rows.get(t).size()}[what];
        }

        int count(int what) {
            switch (what) {
                case 0: return defs.size();
                case 1: return batch == null ? NONE : batch.size();
                case 2: return copy.size();
                default: return BAD;
            }
        }
    }

    /** One object and its model, with calls from one seed. */
    private static final class Run {
        final Random random;
        final int spread;
        final int tables;
        final int keys;
        /* Of so many calls one is made: some runs seldom end a batch, others seldom begin one or empty the log,
           so that both get full. */
        final int ends;
        final int begins;
        final int empties;
        Used x = new Used();
        Model m = new Model();

        Run(int seed) {
            random = new Random(seed);
            spread = 1 + random.nextInt(100);
            tables = random.nextInt(20);
            keys = random.nextInt(4) == 0 ? 6 : 64;
            int mode = random.nextInt(3);
            ends = mode == 1 ? 4 : 1;
            begins = mode == 2 ? 5 : 1;
            empties = mode == 2 ? 30 : 1;
        }

        void go() {
            int steps = 100 + random.nextInt(Used.CALLS);
            for (int i = 0; i < steps && x.left() > 0; i++) {
                int kind = random.nextInt(100);
                if (kind < tables || m.defs.size() < i / 2 && m.defs.size() < TABLES && kind < 90) {
                    makeTable();
                } else if (kind < 85) {
                    alter();
                } else {
                    ask();
                }
                if (random.nextInt(8) == 0 && x.left() > 0) {
                    read(x);
                }
                if (random.nextInt(128) == 0) {
                    readAside();
                }
            }
            readAside();
        }

        /** Mostly from least to greatest, at times just outside, or far. */
        int number(int least, int greatest) {
            int kind = random.nextInt(60);
            if (kind < 4) {
                return new int[] {least - 1, greatest + 1, Integer.MIN_VALUE, Integer.MAX_VALUE}[kind];
            }
            if (kind < 8) {
                return kind < 6 ? least : greatest;
            }
            return greatest < least ? least : least + random.nextInt(greatest - least + 1);
        }

        int table() {
            return number(0, m.defs.size() - 1);
        }

        int key() {
            return number(0, keys - 1);
        }

        long wide() {
            int kind = random.nextInt(20);
            long small = random.nextInt(spread) - spread / 3;
            switch (kind) {
                case 0: return random.nextLong();
                case 1: return Long.MAX_VALUE - small;
                case 2: return Long.MIN_VALUE + small;
                default: return small;
            }
        }

        void makeTable() {
            int t = table();
            int u = table();
            int fewSources = m.defs.isEmpty() || random.nextInt(begins) == 0 ? 0 : 2;
            switch (fewSources + random.nextInt(9 - fewSources)) {
                case 0, 1: due("source", x.source(), m.make(true, new Def(0, NONE, NONE, 0, 0))); break;
                case 2: {
                    long low = wide();
                    long high = random.nextInt(8) == 0 ? wide() : Math.max(low, wide());
                    due("filter", x.filter(t, low, high), m.make(low <= high, new Def(1, t, NONE, low, high)));
                    break;
                }
                case 3: {
                    int a = random.nextInt(3) == 0 ? number(-1000, 1000) : number(-3, 3);
                    int b = number(-1000, 1000);
                    boolean good = Math.abs((long) a) <= 1000 && Math.abs((long) b) <= 1000;
                    due("map", x.map(t, a, b), m.make(good, new Def(2, t, NONE, a, b)));
                    break;
                }
                case 4: {
                    int kind = number(0, 4);
                    int g = number(1, 64);
                    boolean good = kind >= 0 && kind < 5 && g >= 1 && g <= 64;
                    due("fold", x.fold(t, kind, g), m.make(good, new Def(3, t, NONE, kind, g)));
                    break;
                }
                case 5: {
                    int kind = number(0, 1);
                    boolean good = (kind == 0 || kind == 1) && u != NONE;
                    due("join", x.join(t, u, kind), m.make(good, new Def(4, t, u, kind, 0)));
                    break;
                }
                case 6: due("merge", x.merge(t, u), m.make(u != NONE, new Def(5, t, u, 0, 0))); break;
                case 7: {
                    int n = random.nextBoolean() ? number(1, 64) : number(1, 5);
                    due("best", x.best(t, n), m.make(n >= 1 && n <= 64, new Def(6, t, NONE, n, 0)));
                    break;
                }
                default: due("look", x.look(t, u), m.make(u != NONE, new Def(7, t, u, 0, 0))); break;
            }
        }

        int source() {
            List<Integer> sources = new ArrayList<>();
            for (int t = 0; t < m.defs.size(); t++) {
                if (m.defs.get(t).sort == 0) {
                    sources.add(t);
                }
            }
            boolean any = sources.isEmpty() || random.nextInt(12) == 0;
            return any ? table() : sources.get(random.nextInt(sources.size()));
        }

        void alter() {
            int kind = random.nextInt(60);
            if (kind < 40) {
                int t = source();
                int key = key();
                long value = wide();
                due("put(" + t + ", " + key + ", " + value + ")", x.put(t, key, value), m.alter(t, key, value));
            } else if (kind < 52) {
                int t = source();
                int key = key();
                due("remove(" + t + ", " + key + ")", x.remove(t, key), m.alter(t, key, null));
            } else if (kind < 55 && random.nextInt(begins) == 0) {
                due("begin", x.begin(), m.batch == null ? 1 : NO);
                m.batch = m.batch == null ? new ArrayList<>() : m.batch;
            } else if (kind > 54 && kind < 57 && random.nextInt(ends) == 0) {
                due("end", x.end(), m.end());
            } else if (kind == 57 && random.nextInt(ends) == 0) {
                due("drop", x.drop(), m.drop());
            } else if (kind > 57 && random.nextInt(4 * empties) == 0) {
                due("forget", x.forget(), m.forget());
            } else if (kind > 57 && random.nextInt(20 * empties) == 0) {
                due("clear", x.clear(), m.defs.size());
                m = new Model();
            }
        }

        void ask() {
            int t = table();
            int size = m.log.size();
            switch (random.nextInt(4)) {
                case 0: {
                    int from = number(0, size);
                    int left = Math.max(0, size - Math.max(from, 0));
                    int to = random.nextInt(6) == 0 ? number(0, size) : from + random.nextInt(1 + left);
                    due("net(" + t + ", " + from + ", " + to + ")", x.net(t, from, to), m.net(t, from, to));
                    break;
                }
                case 1: {
                    int n = number(0, size);
                    due("copy(" + t + ", " + n + ")", x.copy(t, n), m.copy(t, n));
                    break;
                }
                case 2: {
                    Change c = m.at(random.nextInt(3), random.nextInt(3));
                    if (c != null) {
                        due("take", x.take(c.sort, c.key, c.old, c.now), m.take(c.sort, c.key, c.old, c.now));
                    }
                    break;
                }
                default: {
                    int sort = number(0, 2);
                    int key = key();
                    Long there = m.copy.get(key);
                    long old = there == null || random.nextInt(4) == 0 ? wide() : there;
                    long now = wide();
                    due("take", x.take(sort, key, old, now), m.take(sort, key, old, now));
                    break;
                }
            }
        }

        /** Reads what it can, of a like object: so the calls that the run's own object has left stay for the run. */
        void readAside() {
            Used like = x.again();
            while (like.left() > 0) {
                read(like);
            }
        }

        void read(Used y) {
            int kind = random.nextInt(20);
            if (kind < 8) {
                readRow(y);
            } else if (kind < 16) {
                readChange(y);
            } else {
                readNumber(y, kind - 16);
            }
        }

        void readRow(Used y) {
            int t = number(-1, m.defs.size() - 1);
            int key = number(0, 63);
            TreeMap<Integer, Long> rows = t == -1 ? m.copy : m.table(t) ? m.rows.get(t) : null;
            boolean bad = rows == null || key < 0 || key > 63;
            if (random.nextBoolean()) {
                due("has(" + t + ", " + key + ")", y.has(t, key), bad ? BAD : rows.containsKey(key) ? 1 : 0);
            } else {
                due("at(" + t + ", " + key + ")", y.at(t, key), bad ? 0 : rows.getOrDefault(key, 0L));
            }
        }

        void readChange(Used y) {
            int where = number(0, 2);
            int size = where == 0 ? m.told.size() : where == 1 ? m.log.size() : m.net.size();
            int i = number(0, size - 1);
            if (random.nextBoolean()) {
                int what = number(0, 2);
                due("change(" + where + ", " + i + ", " + what + ")", y.change(where, i, what), m.change(where, i, what));
            } else {
                int which = number(0, 1);
                due("value(" + where + ", " + i + ", " + which + ")", y.value(where, i, which), m.value(where, i, which));
            }
        }

        void readNumber(Used y, int kind) {
            int t = table();
            int what = number(0, 3);
            switch (kind) {
                case 0: due("of(" + t + ", " + what + ")", y.of(t, what), m.of(t, what)); break;
                case 1: due("same(" + t + ")", y.same(t), !m.table(t) ? BAD : m.rows.get(t).equals(m.copy) ? 1 : 0); break;
                case 2: due("count(" + what + ")", y.count(what), m.count(what)); break;
                default:
                    boolean ofLog = random.nextBoolean();
                    due(ofLog ? "logged" : "told", ofLog ? y.logged() : y.told(), ofLog ? m.log.size() : m.told.size());
                    break;
            }
        }
    }
}
