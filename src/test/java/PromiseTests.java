/** For each promise of the document: ordinary calls, the edges that it names, and wrong inputs. */
public final class PromiseTests {
    private static final int NONE = ChangeRows.NONE, BAD = ChangeRows.BAD, FULL = ChangeRows.FULL, NO = ChangeRows.NO;
    private static final int TABLES = 12, LOG = 1500, BATCH = 40;
    private static final int[] WRONG_TABLES = {-1, -2, 1, 12, Integer.MAX_VALUE, Integer.MIN_VALUE};
    private static final int[] WRONG_KEYS = {-1, 64, Integer.MAX_VALUE, Integer.MIN_VALUE};

    private static int wrong = 0;
    private static int promise = 0;

    public static void main(String[] args) {
        newObject();
        clear();
        source();
        filter();
        map();
        fold();
        join();
        merge();
        best();
        look();
        put();
        remove();
        begin();
        end();
        drop();
        told();
        change();
        value();
        logged();
        forget();
        net();
        copy();
        take();
        same();
        has();
        at();
        of();
        count();
        System.out.println(wrong == 0 ? "all promises hold" : wrong + " answers are not as due");
        if (wrong != 0) {
            System.exit(1);
        }
    }

    private static void due(String what, long got, long want) {
        if (got != want) {
            wrong++;
            System.out.println("promise " + promise + ": " + what + " answered " + got + ", due is " + want);
        }
    }

    /** All rows of a table (or the copy) are these, given as key, value, key, value, .. */
    private static void rows(String what, ChangeRows x, int t, long... keysAndValues) {
        for (int key = 0; key < 64; key++) {
            int has = 0;
            long value = 0;
            for (int i = 0; i < keysAndValues.length; i += 2) {
                if (keysAndValues[i] == key) {
                    has = 1;
                    value = keysAndValues[i + 1];
                }
            }
            due(what + ": has " + key, x.has(t, key), has);
            due(what + ": at " + key, x.at(t, key), value);
        }
        due(what + ": how many", t == -1 ? x.count(2) : x.of(t, 3), keysAndValues.length / 2);
    }

    /** Change i of a list is this one. */
    private static void isChange(ChangeRows x, int where, int i, long... tableSortKeyOldNow) {
        for (int what = 0; what < 3; what++) {
            due("change(" + where + ", " + i + ", " + what + ")", x.change(where, i, what), tableSortKeyOldNow[what]);
        }
        due("value(" + where + ", " + i + ", 0)", x.value(where, i, 0), tableSortKeyOldNow[3]);
        due("value(" + where + ", " + i + ", 1)", x.value(where, i, 1), tableSortKeyOldNow[4]);
    }

    private static ChangeRows withSource(long... keysAndValues) {
        ChangeRows x = new ChangeRows();
        x.source();
        for (int i = 0; i < keysAndValues.length; i += 2) {
            x.put(0, (int) keysAndValues[i], keysAndValues[i + 1]);
        }
        return x;
    }

    /** A source that eleven tables follow, so that each change of a row is twelve changes. */
    private static ChangeRows withTwelve() {
        ChangeRows x = withSource();
        for (int t = 1; t < TABLES; t++) {
            x.map(t - 1, 1, 1);
        }
        return x;
    }

    private static ChangeRows withFullLog() {
        ChangeRows x = withTwelve();
        for (int i = 0; i < LOG / TABLES; i++) {
            due("put until the log is full", x.put(0, 7, i), TABLES);
        }
        return x;
    }

    private static void isEmpty(ChangeRows x) {
        due("count(0)", x.count(0), 0);
        due("count(1)", x.count(1), NONE);
        due("count(2)", x.count(2), 0);
        due("logged", x.logged(), 0);
        due("told", x.told(), 0);
        for (int where = 0; where < 3; where++) {
            due("change of " + where, x.change(where, 0, 0), BAD);
            due("value of " + where, x.value(where, 0, 1), 0);
        }
        due("of(0, 0)", x.of(0, 0), BAD);
        due("put", x.put(0, 0, 1), BAD);
        due("end", x.end(), NO);
        rows("copy", x, -1);
    }

    private static void newObject() {
        promise = 1;
        isEmpty(new ChangeRows());
        due("NONE", NONE, -1);
        due("BAD", BAD, -2);
        due("FULL", FULL, -3);
        due("NO", NO, -4);
    }

    private static void clear() {
        promise = 2;
        due("clear of nothing", new ChangeRows().clear(), 0);
        ChangeRows x = withSource(3, 30, 4, 40);
        x.filter(0, 0, 100);
        x.copy(0, 2);
        x.net(0, 0, 2);
        x.begin();
        x.put(0, 5, 50);
        due("clear", x.clear(), 2);
        isEmpty(x);
        due("clear again", x.clear(), 0);
        x.source();
        rows("a source made after it", x, 0);
        due("net of it", x.net(0, 0, 0), 0);
        due("copy of it", x.copy(0, 0), 0);
        due("same", x.same(0), 1);
        due("put", x.put(0, 3, 1), 1);
        isChange(x, 0, 0, 0, 0, 3, 0, 1);
    }

    private static void source() {
        promise = 3;
        ChangeRows x = new ChangeRows();
        for (int t = 0; t < TABLES; t++) {
            due("source", x.source(), t);
            rows("source", x, t);
            due("sort", x.of(t, 0), 0);
        }
        due("one too many", x.source(), FULL);
        due("count(0)", x.count(0), TABLES);
        x.begin();
        due("too many in a batch", x.source(), NO);
        x.drop();
        due("too many after the batch", x.source(), FULL);
        x.clear();
        x.begin();
        due("in a batch", x.source(), NO);
        due("count(0) then", x.count(0), 0);
        x.end();
        due("behind the batch", x.source(), 0);
    }

    /** Refusals that all tables share: what makes one names NO behind BAD and FULL behind NO. */
    private static void refusals(Maker maker) {
        ChangeRows x = withSource();
        for (int t : WRONG_TABLES) {
            due("t = " + t, maker.make(x, t), BAD);
        }
        due("no table came", x.count(0), 1);
        x.begin();
        due("in a batch, wrong t", maker.make(x, 1), BAD);
        due("in a batch", maker.make(x, 0), NO);
        x.end();
        for (int t = 1; t < TABLES; t++) {
            due("number", maker.make(x, 0), t);
        }
        due("one too many", maker.make(x, 0), FULL);
        due("one too many, wrong t", maker.make(x, 12), BAD);
        x.begin();
        due("one too many in a batch", maker.make(x, 0), NO);
        due("all tables", x.count(0), TABLES);
    }

    private interface Maker {
        int make(ChangeRows x, int t);
    }

    private static void filter() {
        promise = 4;
        ChangeRows x = withSource(0, -1, 1, 0, 2, 5, 3, 6, 63, 3);
        due("filter", x.filter(0, 0, 5), 1);
        rows("low .. high", x, 1, 1, 0, 2, 5, 63, 3);
        due("nothing told of it", x.logged(), 5);
        due("one value", x.filter(0, 6, 6), 2);
        rows("one value", x, 2, 3, 6);
        due("all", x.filter(0, Long.MIN_VALUE, Long.MAX_VALUE), 3);
        due("rows of all", x.of(3, 3), 5);
        due("low above high", x.filter(0, 1, 0), BAD);
        due("greatest above least", x.filter(0, Long.MAX_VALUE, Long.MIN_VALUE), BAD);
        due("put out of it", x.put(0, 2, 7), 3);
        isChange(x, 0, 1, 1, 2, 2, 5, 0);
        due("put into it", x.put(0, 0, 4), 3);
        isChange(x, 0, 1, 1, 0, 0, 0, 4);
        refusals((y, t) -> y.filter(t, 0, 1));
        refusals((y, t) -> y.filter(0, 2, t == 0 ? 2 : 1));
    }

    private static void map() {
        promise = 5;
        ChangeRows x = withSource(0, 3, 9, -4, 10, Long.MAX_VALUE);
        due("map", x.map(0, -2, 7), 1);
        rows("map", x, 1, 0, 1, 9, 15, 10, 9);
        due("least", x.map(0, -1000, -1000), 2);
        rows("least", x, 2, 0, -4000, 9, 3000, 10, 0);
        due("greatest", x.map(0, 1000, 1000), 3);
        rows("greatest", x, 3, 0, 4000, 9, -3000, 10, 0);
        due("a = 0", x.map(0, 0, 5), 4);
        due("put with a = 0 apart", x.put(0, 0, 4), 4);
        for (int number : new int[] {-1001, 1001, Integer.MIN_VALUE, Integer.MAX_VALUE}) {
            due("a = " + number, x.map(0, number, 0), BAD);
            due("b = " + number, x.map(0, 0, number), BAD);
        }
        refusals((y, t) -> y.map(t, 1, 1));
        refusals((y, t) -> y.map(0, t == 0 ? 1 : 1001, 0));
    }

    private static void fold() {
        promise = 6;
        ChangeRows x = withSource(1, 5, 4, -2, 7, 9, 63, 0, 2, 8);
        for (int kind = 0; kind < 5; kind++) {
            due("fold", x.fold(0, kind, 3), kind + 1);
        }
        rows("how many", x, 1, 0, 1, 1, 3, 2, 1);
        rows("sum", x, 2, 0, 0, 1, 12, 2, 8);
        rows("least", x, 3, 0, 0, 1, -2, 2, 8);
        rows("greatest", x, 4, 0, 0, 1, 9, 2, 8);
        rows("greatest key", x, 5, 0, 63, 1, 7, 2, 2);
        due("one group", x.fold(0, 1, 1), 6);
        rows("one group", x, 6, 0, 20);
        due("each key a group", x.fold(0, 4, 64), 7);
        rows("each key a group", x, 7, 1, 1, 2, 2, 4, 4, 7, 7, 63, 63);
        due("a group goes", x.remove(0, 2), 8);
        rows("how many then", x, 1, 0, 1, 1, 3);
        due("two folds of five stay", x.put(0, 0, Long.MAX_VALUE), 6);
        x.put(0, 3, 1);
        due("a sum wraps", x.at(2, 0), Long.MIN_VALUE);
        x.clear();
        x.source();
        x.put(0, 0, -3);
        x.put(0, 1, -2);
        x.fold(0, 2, 1);
        x.fold(0, 3, 1);
        rows("least of negative ones", x, 1, 0, -3);
        rows("greatest of negative ones", x, 2, 0, -2);
        for (int kind : new int[] {-1, 5, Integer.MIN_VALUE, Integer.MAX_VALUE}) {
            due("kind = " + kind, x.fold(0, kind, 1), BAD);
        }
        for (int g : new int[] {0, -1, 65, Integer.MIN_VALUE, Integer.MAX_VALUE}) {
            due("g = " + g, x.fold(0, 0, g), BAD);
        }
        refusals((y, t) -> y.fold(t, 0, 1));
        refusals((y, t) -> y.fold(0, t == 0 ? 0 : 5, 1));
        refusals((y, t) -> y.fold(0, 0, t == 0 ? 1 : 65));
    }

    private static void join() {
        promise = 7;
        ChangeRows x = withSource(1, 10, 2, 20, 3, Long.MAX_VALUE);
        x.source();
        x.put(1, 2, 5);
        x.put(1, 3, 1);
        x.put(1, 4, 7);
        due("join", x.join(0, 1, 0), 2);
        rows("both", x, 2, 2, 25, 3, Long.MIN_VALUE);
        due("join", x.join(0, 1, 1), 3);
        rows("t alone too", x, 3, 1, 10, 2, 25, 3, Long.MIN_VALUE);
        due("one table", x.join(0, 0, 0), 4);
        rows("one table", x, 4, 1, 20, 2, 40, 3, -2);
        due("u comes", x.put(1, 1, 0), 2);
        rows("both then", x, 2, 1, 10, 2, 25, 3, Long.MIN_VALUE);
        x.put(0, 0, 1);
        x.put(0, 63, 2);
        x.put(1, 0, 3);
        x.put(1, 63, 4);
        rows("first and last key", x, 2, 0, 4, 1, 10, 2, 25, 3, Long.MIN_VALUE, 63, 6);
        for (int kind : new int[] {-1, 2, Integer.MIN_VALUE, Integer.MAX_VALUE}) {
            due("kind = " + kind, x.join(0, 1, kind), BAD);
        }
        refusals((y, t) -> y.join(t, 0, 0));
        refusals((y, t) -> y.join(0, t, 1));
        refusals((y, t) -> y.join(0, 0, t == 0 ? 0 : 2));
    }

    private static void merge() {
        promise = 8;
        ChangeRows x = withSource(1, 10, 2, 0);
        x.source();
        x.put(1, 2, 5);
        x.put(1, 3, 6);
        due("merge", x.merge(0, 1), 2);
        rows("merge", x, 2, 1, 10, 2, 0, 3, 6);
        due("one table", x.merge(1, 1), 3);
        rows("one table", x, 3, 2, 5, 3, 6);
        due("t's row goes, u's is seen", x.remove(0, 2), 2);
        isChange(x, 0, 1, 2, 1, 2, 0, 5);
        x.put(0, 0, 1);
        x.put(1, 63, 2);
        rows("first and last key", x, 2, 0, 1, 1, 10, 2, 5, 3, 6, 63, 2);
        refusals((y, t) -> y.merge(t, 0));
        refusals((y, t) -> y.merge(0, t));
    }

    private static void best() {
        promise = 9;
        ChangeRows x = withSource(0, 4, 1, 9, 2, 4, 3, -1, 63, 9);
        due("best", x.best(0, 3), 1);
        rows("of several the lesser key", x, 1, 0, 4, 1, 9, 63, 9);
        due("best", x.best(0, 1), 2);
        rows("one", x, 2, 1, 9);
        due("best", x.best(0, 64), 3);
        rows("all", x, 3, 0, 4, 1, 9, 2, 4, 3, -1, 63, 9);
        due("one falls behind", x.put(0, 0, 3), 4);
        isChange(x, 0, 1, 1, 2, 0, 4, 0);
        isChange(x, 0, 2, 1, 0, 2, 0, 4);
        for (int n : new int[] {0, -1, 65, Integer.MIN_VALUE, Integer.MAX_VALUE}) {
            due("n = " + n, x.best(0, n), BAD);
        }
        x = withSource(5, -7);
        x.best(0, 10);
        rows("fewer than n", x, 1, 5, -7);
        x.put(0, 6, 3);
        x.remove(0, 5);
        rows("fewer than n again", x, 1, 6, 3);
        x.clear();
        x.source();
        x.best(0, 63);
        for (int key = 0; key < 64; key++) {
            x.put(0, key, Long.MIN_VALUE + key);
        }
        due("all but one", x.of(1, 3), 63);
        due("the least one is left out", x.has(1, 0), 0);
        refusals((y, t) -> y.best(t, 1));
        refusals((y, t) -> y.best(0, t == 0 ? 64 : 65));
    }

    private static void look() {
        promise = 10;
        ChangeRows x = withSource(0, 5, 1, 64, 2, -1, 3, 6, 4, 69);
        x.source();
        x.put(1, 0, 100);
        x.put(1, 5, 105);
        x.put(1, 63, 0);
        due("look", x.look(0, 1), 2);
        rows("look", x, 2, 0, 105, 1, 100, 2, 0, 4, 105);
        due("one table", x.look(0, 0), 3);
        rows("one table", x, 3, 1, 5);
        due("u changes", x.put(1, 5, 1), 3);
        isChange(x, 0, 1, 2, 1, 0, 105, 1);
        isChange(x, 0, 2, 2, 1, 4, 105, 1);
        due("u goes", x.remove(1, 5), 3);
        rows("look then", x, 2, 1, 100, 2, 0);
        refusals((y, t) -> y.look(t, 0));
        refusals((y, t) -> y.look(0, t));
    }

    /** Refusals that put and remove share. */
    private static void alterRefusals(ChangeRows x, Alter alter) {
        for (int t : WRONG_TABLES) {
            due("t = " + t, alter.alter(x, t == 1 ? 2 : t, 0), BAD);
        }
        for (int key : WRONG_KEYS) {
            due("key = " + key, alter.alter(x, 0, key), BAD);
        }
        due("no source", alter.alter(x, 1, 0), BAD);
        x.begin();
        due("no source in a batch", alter.alter(x, 1, 0), BAD);
        for (int i = 1; i <= BATCH; i++) {
            due("in a batch", alter.alter(x, 0, i), i);
        }
        due("one too many in a batch", alter.alter(x, 0, 0), FULL);
        due("wrong one too many", alter.alter(x, 0, 64), BAD);
        due("gathered", x.count(1), BATCH);
        x.drop();
    }

    private interface Alter {
        int alter(ChangeRows x, int t, int key);
    }

    private static void put() {
        promise = 11;
        ChangeRows x = withSource();
        x.map(0, 2, 0);
        due("comes", x.put(0, 63, 5), 2);
        rows("comes", x, 0, 63, 5);
        isChange(x, 0, 0, 0, 0, 63, 0, 5);
        isChange(x, 0, 1, 1, 0, 63, 0, 10);
        due("other", x.put(0, 63, 6), 2);
        isChange(x, 0, 0, 0, 1, 63, 5, 6);
        due("the same", x.put(0, 63, 6), 0);
        due("0 comes", x.put(0, 0, 0), 2);
        rows("0 comes", x, 0, 0, 0, 63, 6);
        isChange(x, 0, 0, 0, 0, 0, 0, 0);
        alterRefusals(x, (y, t, key) -> y.put(t, key, 1));

        x = withFullLog();
        due("full log", x.logged(), LOG);
        due("too many", x.put(0, 7, -1), FULL);
        rows("nothing changed", x, 0, 7, 124);
        due("nothing follows", x.at(11, 7), 135);
        due("told as before", x.told(), TABLES);
        due("what changes nothing", x.put(0, 7, 124), 0);
        due("logged still", x.logged(), LOG);
        x.forget();
        due("after forget", x.put(0, 7, -1), TABLES);
        isChange(x, 1, 11, 11, 1, 7, 135, 10);
        x = withFullLog();
        x.begin();
        due("gathered though the log is full", x.put(0, 7, -1), 1);
        onePutTooMany();
    }

    /** The log takes its last change, and not one more. */
    private static void onePutTooMany() {
        ChangeRows x = withSource();
        for (int t = 1; t < TABLES - 1; t++) {
            x.map(0, 1, t);
        }
        x.source();
        for (int i = 0; i < 136; i++) {
            x.put(0, 7, i);
        }
        due("logged before the last ones", x.logged(), 1496);
        due("too many by far", x.put(0, 7, -1), FULL);
        for (int i = 0; i < 4; i++) {
            due("a last one", x.put(11, 63, i), 1);
        }
        due("one too many", x.put(11, 63, 4), FULL);
        rows("nothing changed", x, 11, 63, 3);
        due("logged", x.logged(), LOG);
        isChange(x, 1, LOG - 1, 11, 1, 63, 2, 3);
    }

    private static void remove() {
        promise = 12;
        ChangeRows x = withSource(63, 5, 0, 0);
        x.map(0, 2, 0);
        due("goes", x.remove(0, 63), 2);
        rows("goes", x, 0, 0, 0);
        isChange(x, 0, 0, 0, 2, 63, 5, 0);
        isChange(x, 0, 1, 1, 2, 63, 10, 0);
        due("there is none", x.remove(0, 63), 0);
        due("0 goes", x.remove(0, 0), 2);
        rows("0 goes", x, 0);
        alterRefusals(x, (y, t, key) -> y.remove(t, key));

        x = withFullLog();
        due("too many", x.remove(0, 7), FULL);
        rows("nothing changed", x, 0, 7, 124);
        due("what changes nothing", x.remove(0, 8), 0);
        x.begin();
        due("gathered though the log is full", x.remove(0, 7), 1);
    }

    private static void begin() {
        promise = 13;
        ChangeRows x = withSource(1, 10);
        due("begin", x.begin(), 1);
        due("gathered", x.count(1), 0);
        x.put(0, 1, 11);
        due("there is one", x.begin(), NO);
        due("gathered still", x.count(1), 1);
        x.end();
        due("begin after end", x.begin(), 1);
        due("gathered then", x.count(1), 0);
        x.drop();
        due("begin after drop", x.begin(), 1);
    }

    private static void end() {
        promise = 14;
        ChangeRows x = withSource(1, 10, 2, 20);
        x.source();
        x.join(0, 1, 0);
        x.forget();
        due("there is none", x.end(), NO);
        x.begin();
        x.put(1, 2, 3);
        x.put(0, 5, 50);
        x.put(0, 1, 11);
        x.remove(0, 5);
        x.put(0, 1, 12);
        x.remove(0, 2);
        x.put(0, 2, 22);
        rows("as it was", x, 0, 1, 10, 2, 20);
        rows("as it was", x, 2);
        due("logged as it was", x.logged(), 0);
        due("end", x.end(), 4);
        isChange(x, 0, 0, 0, 1, 1, 10, 12);
        isChange(x, 0, 1, 0, 1, 2, 20, 22);
        isChange(x, 0, 2, 1, 0, 2, 0, 3);
        isChange(x, 0, 3, 2, 0, 2, 0, 25);
        rows("then", x, 0, 1, 12, 2, 22);
        due("no batch", x.count(1), NONE);
        x.begin();
        x.put(0, 1, 0);
        x.put(0, 1, 12);
        due("nothing on the whole", x.end(), 0);
        due("told", x.told(), 0);
        x.begin();
        due("nothing gathered", x.end(), 0);
        due("twice", x.end(), NO);

        x = withFullLog();
        x.begin();
        x.put(0, 7, -1);
        x.put(0, 8, -2);
        due("too many", x.end(), FULL);
        due("it goes on", x.count(1), 2);
        due("there still is one", x.begin(), NO);
        rows("nothing changed", x, 0, 7, 124);
        due("told as before", x.told(), TABLES);
        x.forget();
        due("after forget", x.end(), 2 * TABLES);
        rows("then", x, 0, 7, -1, 8, -2);
        due("logged then", x.logged(), 2 * TABLES);
        endOfManyChanges();
    }

    /** Forty gathered changes of a source change twelve tables at forty keys each. */
    private static void endOfManyChanges() {
        ChangeRows x = withTwelve();
        x.begin();
        for (int i = 0; i < BATCH; i++) {
            x.put(0, 63 - i, i);
        }
        due("many", x.end(), BATCH * TABLES);
        due("told", x.told(), BATCH * TABLES);
        due("logged", x.logged(), BATCH * TABLES);
        for (int i = 0; i < BATCH * TABLES; i++) {
            int t = i / BATCH;
            int key = 64 - BATCH + i % BATCH;
            isChange(x, 0, i, t, 0, key, 0, 63 - key + t);
            isChange(x, 1, i, t, 0, key, 0, 63 - key + t);
        }
    }

    private static void drop() {
        promise = 15;
        ChangeRows x = withSource(1, 10);
        due("there is none", x.drop(), NO);
        x.begin();
        due("nothing gathered", x.drop(), 0);
        x.begin();
        x.put(0, 1, 11);
        x.remove(0, 1);
        due("drop", x.drop(), 2);
        rows("nothing changes", x, 0, 1, 10);
        due("logged", x.logged(), 1);
        due("told", x.told(), 1);
        due("no batch", x.count(1), NONE);
        x.put(0, 2, 20);
        rows("what was gathered is gone", x, 0, 1, 10, 2, 20);
    }

    private static void told() {
        promise = 16;
        ChangeRows x = withSource();
        x.map(0, 1, 0);
        x.put(0, 0, 1);
        due("by put", x.told(), 2);
        x.put(0, 64, 1);
        due("after a refusal", x.told(), 2);
        x.filter(0, 0, 1);
        due("after a table", x.told(), 2);
        x.forget();
        due("after forget", x.told(), 2);
        isChange(x, 0, 0, 0, 0, 0, 0, 1);
        isChange(x, 0, 1, 1, 0, 0, 0, 1);
        x.begin();
        x.put(0, 1, 1);
        due("by put in a batch", x.told(), 2);
        x.remove(0, 0);
        due("by remove in a batch", x.told(), 2);
        x.put(0, 2, 1);
        x.end();
        due("by end", x.told(), 9);
        x.remove(0, 1);
        due("by remove", x.told(), 3);
        x.remove(0, 1);
        due("by remove of none", x.told(), 0);
    }

    private static void change() {
        promise = 17;
        ChangeRows x = withSource(9, 1);
        x.map(0, 1, 1);
        x.put(0, 9, 2);
        x.remove(0, 9);
        isChange(x, 0, 0, 0, 2, 9, 2, 0);
        isChange(x, 0, 1, 1, 2, 9, 3, 0);
        isChange(x, 1, 0, 0, 0, 9, 0, 1);
        isChange(x, 1, 1, 0, 1, 9, 1, 2);
        isChange(x, 1, 2, 1, 1, 9, 2, 3);
        isChange(x, 1, 3, 0, 2, 9, 2, 0);
        isChange(x, 1, 4, 1, 2, 9, 3, 0);
        due("net", x.net(1, 0, 5), 1);
        isChange(x, 2, 0, 1, 2, 9, 2, 0);
        x.net(1, 5, 0);
        isChange(x, 2, 0, 1, 2, 9, 2, 0);
        int[] sizes = {2, 5, 1};
        for (int where = 0; where < 3; where++) {
            for (int i : new int[] {-1, sizes[where], Integer.MIN_VALUE, Integer.MAX_VALUE}) {
                due("i = " + i, x.change(where, i, 0), BAD);
            }
            for (int what : new int[] {-1, 3, Integer.MIN_VALUE, Integer.MAX_VALUE}) {
                due("what = " + what, x.change(where, 0, what), BAD);
            }
        }
        for (int where : new int[] {-1, 3, Integer.MIN_VALUE, Integer.MAX_VALUE}) {
            due("where = " + where, x.change(where, 0, 0), BAD);
        }
    }

    private static void value() {
        promise = 18;
        ChangeRows x = withSource(9, Long.MIN_VALUE, 9, Long.MAX_VALUE);
        x.remove(0, 9);
        isChange(x, 1, 0, 0, 0, 9, 0, Long.MIN_VALUE);
        isChange(x, 1, 1, 0, 1, 9, Long.MIN_VALUE, Long.MAX_VALUE);
        isChange(x, 1, 2, 0, 2, 9, Long.MAX_VALUE, 0);
        x.net(0, 1, 2);
        int[] sizes = {1, 3, 1};
        for (int where = 0; where < 3; where++) {
            for (int i : new int[] {-1, sizes[where], Integer.MIN_VALUE, Integer.MAX_VALUE}) {
                due("i = " + i, x.value(where, i, 0), 0);
                due("i = " + i, x.value(where, i, 1), 0);
            }
            for (int which : new int[] {-1, 2, Integer.MIN_VALUE, Integer.MAX_VALUE}) {
                due("which = " + which, x.value(where, 0, which), 0);
            }
        }
        for (int where : new int[] {-1, 3, Integer.MIN_VALUE, Integer.MAX_VALUE}) {
            due("where = " + where, x.value(where, 0, 1), 0);
        }
    }

    private static void logged() {
        promise = 19;
        ChangeRows x = withSource();
        due("at first", x.logged(), 0);
        x.put(0, 0, 1);
        x.map(0, 1, 0);
        due("a table is not logged", x.logged(), 1);
        x.put(0, 0, 2);
        due("two more", x.logged(), 3);
        x.put(0, 0, 2);
        due("none more", x.logged(), 3);
        x = withFullLog();
        due("as many as there may be", x.logged(), LOG);
        isChange(x, 1, LOG - 1, 11, 1, 7, 134, 135);
    }

    private static void forget() {
        promise = 20;
        ChangeRows x = withSource(1, 10, 2, 20);
        x.remove(0, 1);
        due("forget", x.forget(), 3);
        due("logged", x.logged(), 0);
        due("forget again", x.forget(), 0);
        due("change", x.change(1, 0, 0), BAD);
        rows("rows stay", x, 0, 2, 20);
        due("copy of base", x.copy(0, 0), 1);
        rows("base", x, -1, 2, 20);
        x.put(0, 2, 21);
        x.put(0, 3, 30);
        due("copy of base", x.copy(0, 0), 1);
        rows("base", x, -1, 2, 20);
        due("net from base on", x.net(0, 0, 2), 2);
        isChange(x, 2, 0, 0, 1, 2, 20, 21);
    }

    private static void net() {
        promise = 21;
        ChangeRows x = withSource();
        x.source();
        x.put(0, 5, 1);
        x.put(1, 6, 9);
        x.put(0, 3, 2);
        x.put(0, 5, 4);
        x.remove(0, 3);
        x.put(0, 5, 1);
        due("all", x.net(0, 0, 6), 1);
        isChange(x, 2, 0, 0, 0, 5, 0, 1);
        due("by keys", x.net(0, 0, 4), 2);
        isChange(x, 2, 0, 0, 0, 3, 0, 2);
        isChange(x, 2, 1, 0, 0, 5, 0, 4);
        due("of the other table", x.net(1, 0, 6), 1);
        isChange(x, 2, 0, 1, 0, 6, 0, 9);
        due("none of the other table", x.net(1, 2, 6), 0);
        due("there and back", x.net(0, 2, 6), 0);
        due("gone and other", x.net(0, 3, 5), 2);
        isChange(x, 2, 0, 0, 2, 3, 2, 0);
        isChange(x, 2, 1, 0, 1, 5, 1, 4);
        due("one place", x.net(0, 3, 3), 0);
        due("the end", x.net(0, 6, 6), 0);
        x.net(0, 3, 5);
        due("from above to", x.net(0, 4, 3), BAD);
        due("from below 0", x.net(0, -1, 3), BAD);
        due("to above all", x.net(0, 0, 7), BAD);
        due("both above all", x.net(0, 7, 7), BAD);
        due("both below 0", x.net(0, -1, -1), BAD);
        due("far", x.net(0, Integer.MIN_VALUE, Integer.MAX_VALUE), BAD);
        for (int t : WRONG_TABLES) {
            due("t = " + t, x.net(t == 1 ? 2 : t, 0, 0), BAD);
        }
        isChange(x, 2, 0, 0, 2, 3, 2, 0);
        x.forget();
        isChange(x, 2, 1, 0, 1, 5, 1, 4);
        due("to above an empty log", x.net(0, 0, 1), BAD);

        x = withSource(5, 1);
        x.map(0, 1, 1);
        x.put(0, 5, 2);
        due("a table made later, before it was made", x.net(1, 0, 1), 0);
        due("a table made later", x.net(1, 0, 3), 1);
        isChange(x, 2, 0, 1, 1, 5, 2, 3);
        due("between a call's changes", x.net(1, 0, 2), 0);
        due("a row of value 0", x.put(0, 6, 0), 2);
        due("net of it", x.net(0, 3, 5), 1);
        isChange(x, 2, 0, 0, 0, 6, 0, 0);
    }

    private static void copy() {
        promise = 22;
        ChangeRows x = withSource(5, 1, 3, 2);
        x.map(0, 10, 0);
        x.remove(0, 5);
        due("at first", x.copy(0, 0), 0);
        rows("at first", x, -1);
        due("behind 2", x.copy(0, 2), 2);
        rows("behind 2", x, -1, 5, 1, 3, 2);
        due("behind all", x.copy(0, 4), 1);
        rows("behind all", x, -1, 3, 2);
        due("a table made later", x.copy(1, 0), 2);
        rows("a table made later", x, -1, 5, 10, 3, 20);
        due("before its own change", x.copy(1, 3), 2);
        due("behind its own change", x.copy(1, 4), 1);
        for (int n : new int[] {-1, 5, Integer.MIN_VALUE, Integer.MAX_VALUE}) {
            due("n = " + n, x.copy(1, n), BAD);
        }
        for (int t : WRONG_TABLES) {
            due("t = " + t, x.copy(t == 1 ? 2 : t, 0), BAD);
        }
        rows("after refusals", x, -1, 3, 20);
        x.put(0, 3, 7);
        rows("it does not follow", x, -1, 3, 20);
    }

    private static void take() {
        promise = 23;
        ChangeRows x = new ChangeRows();
        due("come", x.take(0, 63, 99, 5), 0);
        rows("come", x, -1, 63, 5);
        due("come again", x.take(0, 63, 0, 6), 1);
        due("come again, the same", x.take(0, 63, 0, 5), 1);
        due("other of none", x.take(1, 62, 0, 6), 2);
        due("gone of none", x.take(2, 62, 0, 6), 2);
        due("other of another old", x.take(1, 63, 6, 7), 3);
        due("gone of another old", x.take(2, 63, 6, 0), 3);
        rows("none was taken", x, -1, 63, 5);
        due("other", x.take(1, 63, 5, 7), 0);
        rows("other", x, -1, 63, 7);
        due("gone", x.take(2, 63, 7, 99), 0);
        rows("gone", x, -1);
        due("come of 0", x.take(0, 0, 1, 0), 0);
        rows("come of 0", x, -1, 0, 0);
        due("other of the same", x.take(1, 0, 0, 0), 0);
        for (int sort : new int[] {-1, 3, Integer.MIN_VALUE, Integer.MAX_VALUE}) {
            due("sort = " + sort, x.take(sort, 0, 0, 0), BAD);
        }
        for (int key : WRONG_KEYS) {
            for (int sort = 0; sort < 3; sort++) {
                due("key = " + key, x.take(sort, key, 0, 0), BAD);
            }
        }
        rows("after refusals", x, -1, 0, 0);
    }

    private static void same() {
        promise = 24;
        ChangeRows x = withSource();
        due("both empty", x.same(0), 1);
        x.put(0, 4, 0);
        due("a row of value 0 more", x.same(0), 0);
        x.take(0, 4, 0, 0);
        due("equal", x.same(0), 1);
        x.put(0, 4, 1);
        due("another value", x.same(0), 0);
        x.take(1, 4, 0, 1);
        due("equal again", x.same(0), 1);
        x.take(0, 63, 0, 0);
        due("the copy has more", x.same(0), 0);
        x.begin();
        x.put(0, 63, 0);
        due("in a batch as it was", x.same(0), 0);
        x.end();
        due("behind the batch", x.same(0), 1);
        for (int t : WRONG_TABLES) {
            due("t = " + t, x.same(t), BAD);
        }
    }

    private static void has() {
        promise = 25;
        ChangeRows x = withSource(0, 0, 63, 1);
        x.take(0, 5, 0, 0);
        due("first key", x.has(0, 0), 1);
        due("last key", x.has(0, 63), 1);
        due("none", x.has(0, 5), 0);
        due("copy", x.has(-1, 5), 1);
        due("none of the copy", x.has(-1, 0), 0);
        for (int t : WRONG_TABLES) {
            due("t = " + t, x.has(t == -1 ? -2 : t, 0), BAD);
        }
        for (int key : WRONG_KEYS) {
            due("key = " + key, x.has(0, key), BAD);
            due("key = " + key, x.has(-1, key), BAD);
        }
    }

    private static void at() {
        promise = 26;
        ChangeRows x = withSource(0, 7, 63, -1);
        x.take(0, 5, 0, 8);
        due("first key", x.at(0, 0), 7);
        due("last key", x.at(0, 63), -1);
        due("none", x.at(0, 5), 0);
        due("copy", x.at(-1, 5), 8);
        due("none of the copy", x.at(-1, 0), 0);
        x.remove(0, 0);
        due("gone", x.at(0, 0), 0);
        for (int t : WRONG_TABLES) {
            due("t = " + t, x.at(t == -1 ? -2 : t, 5), 0);
        }
        for (int key : WRONG_KEYS) {
            due("key = " + key, x.at(0, key), 0);
            due("key = " + key, x.at(-1, key), 0);
        }
    }

    private static void of() {
        promise = 27;
        ChangeRows x = withSource(3, 1, 4, 2);
        x.source();
        x.filter(1, 0, 1);
        x.map(2, 1, 1);
        x.fold(3, 0, 1);
        x.join(4, 0, 0);
        x.merge(0, 5);
        x.best(6, 1);
        x.look(7, 1);
        int[][] want = {{0, NONE, NONE, 2}, {0, NONE, NONE, 0}, {1, 1, NONE, 0}, {2, 2, NONE, 0}, {3, 3, NONE, 0},
            {4, 4, 0, 0}, {5, 0, 5, 2}, {6, 6, NONE, 1}, {7, 7, 1, 0}};
        for (int t = 0; t < want.length; t++) {
            for (int what = 0; what < 4; what++) {
                due("of(" + t + ", " + what + ")", x.of(t, what), want[t][what]);
            }
            for (int what : new int[] {-1, 4, Integer.MIN_VALUE, Integer.MAX_VALUE}) {
                due("what = " + what, x.of(t, what), BAD);
            }
        }
        for (int t : WRONG_TABLES) {
            due("t = " + t, x.of(t == 1 ? 9 : t, 0), BAD);
        }
    }

    private static void count() {
        promise = 28;
        ChangeRows x = withSource(3, 1);
        x.map(0, 1, 1);
        due("tables", x.count(0), 2);
        due("no batch", x.count(1), NONE);
        x.begin();
        due("empty batch", x.count(1), 0);
        x.put(0, 3, 2);
        x.put(0, 3, 3);
        due("batch", x.count(1), 2);
        x.end();
        due("no batch again", x.count(1), NONE);
        due("empty copy", x.count(2), 0);
        x.copy(1, 1);
        x.take(0, 63, 0, 0);
        due("copy", x.count(2), 2);
        for (int what : new int[] {-1, 3, Integer.MIN_VALUE, Integer.MAX_VALUE}) {
            due("what = " + what, x.count(what), BAD);
        }
    }
}
