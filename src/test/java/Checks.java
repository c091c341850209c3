/** What the tests share: answers that are due, rows and changes that are due, and calls that must change nothing. */
abstract class Checks {
    static final int NONE = -1, BAD = -2, FULL = -3, NO = -4;
    static final int TABLES = 12, KEYS = 64, LOG = 1500, BATCH = 40;
    static final long MIN = Long.MIN_VALUE, MAX = Long.MAX_VALUE;

    /* So many faults end the test: more would not tell more. */
    private static final int SHOWN = 100;
    private static int wrong = 0;
    private static String sentence = "";

    /** What is tested from here on. */
    static void about(String words) {
        sentence = words;
    }

    static void due(String what, long got, long want) {
        if (got != want) {
            wrong++;
            System.out.println(sentence + ": " + what + " answered " + got + ", due is " + want);
            if (wrong == SHOWN) {
                finish("");
            }
        }
    }

    static void finish(String well) {
        System.out.println(wrong == 0 ? well : wrong + " answers are not as due");
        if (wrong != 0) {
            System.exit(1);
        }
    }

    /** All rows of a table (or the copy) are these, given as key, value, key, value, .. */
    static void rows(String what, Used used, int t, long... keysAndValues) {
        Used x = used.again();
        for (int key = 0; key < KEYS; key++) {
            int has = 0;
            long value = 0;
            for (int i = 0; i < keysAndValues.length; i += 2) {
                if (keysAndValues[i] == key) {
                    has = 1;
                    value = keysAndValues[i + 1];
                }
            }
            due(what + ": has " + key, x.has(t, key), has);
            due(what + ": at " + key, x.at(t, key), value);
        }
        due(what + ": how many", t == -1 ? x.count(2) : x.of(t, 3), keysAndValues.length / 2);
    }

    /** Change i of a list is this one. */
    static void isChange(Used used, int where, int i, long... tableSortKeyOldNow) {
        Used x = used.again();
        for (int what = 0; what < 3; what++) {
            due("change(" + where + ", " + i + ", " + what + ")", x.change(where, i, what), tableSortKeyOldNow[what]);
        }
        due("value(" + where + ", " + i + ", 0)", x.value(where, i, 0), tableSortKeyOldNow[3]);
        due("value(" + where + ", " + i + ", 1)", x.value(where, i, 1), tableSortKeyOldNow[4]);
    }

    /** A list has these changes and no more. */
    static void changes(Used x, int where, long[]... all) {
        for (int i = 0; i < all.length; i++) {
            isChange(x, where, i, all[i]);
        }
        due("change behind the last of " + where, x.again().change(where, all.length, 0), BAD);
    }

    /** Table, sort, key, old value, new value. */
    static long[] one(long... tableSortKeyOldNow) {
        return tableSortKeyOldNow;
    }

    /** No tables, no batch, nothing told, logged or in the copy. */
    static void isEmpty(Used x) {
        due("count(0)", x.count(0), 0);
        due("count(1)", x.count(1), NONE);
        due("count(2)", x.count(2), 0);
        due("logged", x.logged(), 0);
        due("told", x.told(), 0);
        for (int where = 0; where < 3; where++) {
            for (int what = 0; what < 3; what++) {
                due("change of " + where, x.change(where, 0, what), BAD);
                due("value of " + where, x.value(where, 0, what), 0);
            }
        }
        for (int t = 0; t < TABLES; t++) {
            due("of(" + t + ", 0)", x.of(t, 0), BAD);
            due("put(" + t + ", 0, 1)", x.put(t, 0, 1), BAD);
        }
        due("end", x.end(), NO);
        due("drop", x.drop(), NO);
        due("forget", x.forget(), 0);
        rows("copy", x, -1);
    }

    /** The call is refused with this answer, and nothing has changed by it. */
    static void refused(String what, Used x, Used.Call call, int answer) {
        Used y = x.again();
        due(what, y.call(call), answer);
        alike(what, x, y);
    }

    /** The two answer alike, now and after more calls. */
    static void alike(String what, Used x, Used y) {
        new Twins(x, y).compare(what);
        Twins.compareBases(what, x, y);
        new Twins(x, y, ChangeRows::end).compare(what + ", then end()");
        Used.Call[] later = {ChangeRows::drop, ChangeRows::forget, ChangeRows::source, z -> z.put(0, 0, 1001),
            z -> z.put(0, 63, -1001), z -> z.remove(0, 5), ChangeRows::begin, z -> z.put(0, 5, 7), ChangeRows::end};
        new Twins(x, y, later).compare(what + ", then more calls");
    }

    /** A number just below and one just above the bounds, and the farthest ones. */
    static int[] outside(int least, int greatest) {
        return new int[] {least - 1, greatest + 1, Integer.MIN_VALUE, Integer.MAX_VALUE};
    }

    static Used withSource(long... keysAndValues) {
        Used x = new Used();
        x.source();
        for (int i = 0; i < keysAndValues.length; i += 2) {
            x.put(0, (int) keysAndValues[i], keysAndValues[i + 1]);
        }
        return x;
    }

    /** A source that eleven tables follow, so that each change of a row is twelve changes. */
    static Used withTwelve() {
        Used x = withSource();
        for (int t = 1; t < TABLES; t++) {
            x.map(t - 1, 1, 1);
        }
        return x;
    }

    /** The log has all 1500 changes: key 7 of the source was 0, 1, .., 124. */
    static Used withFullLog() {
        Used x = withTwelve();
        for (int i = 0; i < LOG / TABLES; i++) {
            due("put until the log is full", x.put(0, 7, i), TABLES);
        }
        return x;
    }

    /** Nine tables, one of each sort and a second source, with something in all that a call could spoil. */
    static Used withAllSorts() {
        Used x = withSource(0, 5, 1, 64, 5, -3, 62, MAX);
        x.source();
        x.put(1, 0, 1);
        x.put(1, 5, 9);
        x.put(1, 7, 0);
        x.forget();
        x.filter(0, 0, 100);
        x.map(0, -3, 11);
        x.fold(0, 1, 5);
        x.put(0, 63, 7);
        x.join(0, 1, 1);
        x.merge(0, 1);
        x.best(0, 2);
        x.look(0, 1);
        x.put(1, 63, -2);
        x.put(0, 5, 2);
        x.remove(0, 1);
        x.put(0, 2, 5);
        due("net, to be kept", x.net(6, 1, 29), 3);
        due("copy, to be kept", x.copy(5, 6), 5);
        due("take, to be kept", x.take(0, 40, 0, 4), 0);
        return x;
    }

    /** A batch with three that wait, two of one key. */
    static Used inBatch(Used start) {
        return start.again(ChangeRows::begin, x -> x.put(0, 5, 1), x -> x.put(0, 6, 2), x -> x.remove(0, 5));
    }

    /** A batch with as many as it takes. */
    static Used withFullBatch(Used start) {
        Used x = start.again(ChangeRows::begin);
        for (int i = 1; i <= BATCH; i++) {
            due("put until the batch is full", x.put(0, i, 100 + i), i);
        }
        return x;
    }

    static Used withAllTables(Used start) {
        Used x = start.again();
        for (int t = x.count(0); t < TABLES; t++) {
            due("source until there are all tables", x.source(), t);
        }
        return x;
    }
}
