/** Each sentence of the promises that names a boundary case: on the bound, beyond it, and what a refusal leaves. */
public final class PromiseBoundaryTests extends Checks {
    public static void main(String[] args) {
        newObject();
        clear();
        source();
        filter();
        map();
        fold();
        join();
        merge();
        best();
        look();
        put();
        remove();
        begin();
        end();
        drop();
        told();
        change();
        value();
        logged();
        forget();
        net();
        copy();
        take();
        same();
        has();
        at();
        of();
        count();
        finish("all boundaries of the promises hold");
    }

    /** A call with one number in question. */
    private interface Asked {
        long on(ChangeRows x, int number);
    }

    private record State(String name, Used used) { }

    /** In all of these table 0 is a source; other refusals than BAD would be due in most of them, too. */
    private static final State[] STATES = {
        new State("one source", withSource()),
        new State("tables of all sorts", withAllSorts()),
        new State("a batch", inBatch(withAllSorts())),
        new State("all tables", withAllTables(withAllSorts())),
        new State("all tables and a batch", inBatch(withAllTables(withAllSorts()))),
        new State("a full batch", withFullBatch(withAllSorts())),
        new State("a full log", withFullLog()),
        new State("a full log and a batch", inBatch(withFullLog()))};

    /** Each of the numbers is BAD in each state, whatever else is refused there, and changes nothing. */
    private static void bad(String what, int[] numbers, Asked call) {
        for (State state : STATES) {
            for (int number : numbers) {
                refused(what + " " + number + ", " + state.name, state.used, x -> call.on(x, number), BAD);
            }
        }
    }

    /** Likewise for numbers that are no table's: which these are depends on how many there are. */
    private static void badTable(String what, Asked call) {
        for (State state : STATES) {
            for (int t : outside(0, state.used.again().count(0) - 1)) {
                refused(what + " " + t + ", " + state.name, state.used, x -> call.on(x, t), BAD);
            }
        }
        for (int t : outside(0, -1)) {
            refused(what + " " + t + ", no tables", new Used(), x -> call.on(x, t), BAD);
        }
    }

    /** NO in a batch, with all tables too; FULL with all tables; else a number. */
    private static void noAndFull(Used.Call call) {
        refused("in a batch", inBatch(withAllSorts()), call, NO);
        refused("in a batch without any", withAllSorts().again(ChangeRows::begin), call, NO);
        refused("in a batch, with all tables", inBatch(withAllTables(withAllSorts())), call, NO);
        refused("with all tables", withAllTables(withAllSorts()), call, FULL);
        due("behind a batch", withAllSorts().again(ChangeRows::begin, ChangeRows::end).call(call), 9);
        due("behind a batch that was dropped", inBatch(withAllSorts()).again(ChangeRows::drop).call(call), 9);
        Used x = withAllSorts();
        x.source();
        x.source();
        due("the last table", x.call(call), TABLES - 1);
    }

    /** Making a table tells and logs nothing. */
    private static void makingIsNoChange(Used.Call call) {
        Used x = withAllSorts();
        Used y = x.again(call);
        due("told", y.told(), x.told());
        due("logged", y.logged(), x.logged());
        due("tables", y.count(0), x.count(0) + 1);
    }

    private static void newObject() {
        about("promise 1: No TABLES; THE LOG and THE COPY are empty, nothing is TOLD, no BATCH");
        isEmpty(new Used());
        due("source", new Used().source(), 0);
        due("begin", new Used().begin(), 1);
        due("a batch without tables", new Used().again(ChangeRows::begin).end(), 0);
    }

    private static void clear() {
        about("promise 2: All as at first: how many TABLES there were");
        due("none", new Used().clear(), 0);
        for (State state : STATES) {
            Used x = state.used.again();
            due("clear, " + state.name, x.clear(), state.used.again().count(0));
            alike("as at first, " + state.name, new Used(), x);
            isEmpty(x.again());
            due("none then", x.again().clear(), 0);
            alike("the same calls again, " + state.name, withAllSorts(), x.again().likewise(withAllSorts()));
            alike("sources again, " + state.name, withAllTables(new Used()), withAllTables(x));
        }
        due("all of them", withTwelve().clear(), TABLES);
    }

    private static void source() {
        about("promise 3: A SOURCE without ROWS. NO: in a BATCH (so with all TABLES); FULL");
        noAndFull(ChangeRows::source);
        makingIsNoChange(ChangeRows::source);
        Used x = withAllSorts();
        due("source", x.source(), 9);
        rows("without rows", x, 9);
        due("no rows", x.copy(9, 0), 0);
        x = new Used();
        refused("in a batch, without tables", x.again(ChangeRows::begin), y -> y.source(), NO);
        for (int t = 0; t < TABLES; t++) {
            due("source", x.source(), t);
        }
        refused("one too many", x, y -> y.source(), FULL);
    }

    private static void filter() {
        about("promise 4: BAD: also low above high; NO; FULL");
        badTable("filter of", (x, t) -> x.filter(t, 0, 1));
        bad("low above high: high", new int[] {8, 0, -1, Integer.MIN_VALUE}, (x, high) -> x.filter(0, 9, high));
        bad("high below low: low", new int[] {-8, 0, Integer.MAX_VALUE}, (x, low) -> x.filter(0, low, -9));
        refused("farthest", withAllSorts(), x -> x.filter(0, MAX, MIN), BAD);
        refused("next to the greatest", withAllSorts(), x -> x.filter(0, MAX, MAX - 1), BAD);
        refused("next to the least", withAllSorts(), x -> x.filter(0, MIN + 1, MIN), BAD);
        refused("by the high bits", withAllSorts(), x -> x.filter(0, 1L << 32, 5), BAD);
        noAndFull(x -> x.filter(8, 5, 5));
        noAndFull(x -> x.filter(0, MIN, MAX));
        makingIsNoChange(x -> x.filter(0, MIN, MAX));
    }

    private static void map() {
        about("promise 5: A MAP (a, b -1000 .. 1000). BAD; NO; FULL");
        badTable("map of", (x, t) -> x.map(t, 1, 1));
        bad("a", outside(-1000, 1000), (x, a) -> x.map(0, a, 0));
        bad("b", outside(-1000, 1000), (x, b) -> x.map(0, 1, b));
        for (int a : new int[] {-1000, -999, -1, 0, 1, 999, 1000}) {
            for (int b : new int[] {-1000, -999, 0, 999, 1000}) {
                Used x = withSource(0, 3, 63, -2);
                due("map(0, " + a + ", " + b + ")", x.map(0, a, b), 1);
                rows("a " + a + ", b " + b, x, 1, 0, 3 * a + b, 63, -2 * a + b);
            }
        }
        noAndFull(x -> x.map(0, -1000, 1000));
        noAndFull(x -> x.map(8, 1000, -1000));
        makingIsNoChange(x -> x.map(0, 0, 0));
    }

    private static void fold() {
        about("promise 6: A FOLD (kind 0 .. 4, g 1 .. 64). BAD; NO; FULL");
        badTable("fold of", (x, t) -> x.fold(t, 0, 1));
        bad("kind", outside(0, 4), (x, kind) -> x.fold(0, kind, 1));
        bad("g", outside(1, 64), (x, g) -> x.fold(0, 0, g));
        bad("g below 0", new int[] {-1, -64}, (x, g) -> x.fold(0, 0, g));
        for (int g = 1; g <= 64; g++) {
            Used x = withSource();
            for (int key = 0; key < KEYS; key++) {
                x.put(0, key, key);
            }
            due("g " + g, x.fold(0, 0, g), 1);
            due("as many groups", x.of(1, 3), g);
            due("kind 4, g " + g, x.fold(0, 4, g), 2);
            for (int k = 0; k < g; k++) {
                due("how many are " + k + " modulo " + g, x.at(1, k), (63 - k) / g + 1);
                due("the greatest that is " + k + " modulo " + g, x.at(2, k), k + (63 - k) / g * g);
            }
        }
        noAndFull(x -> x.fold(0, 0, 64));
        noAndFull(x -> x.fold(8, 4, 1));
        makingIsNoChange(x -> x.fold(0, 4, 64));
    }

    private static void join() {
        about("promise 7: A JOIN (kind 0, 1). BAD; NO; FULL");
        badTable("join of", (x, t) -> x.join(t, 0, 0));
        badTable("join with", (x, u) -> x.join(0, u, 1));
        bad("kind", outside(0, 1), (x, kind) -> x.join(0, 0, kind));
        noAndFull(x -> x.join(0, 8, 0));
        noAndFull(x -> x.join(8, 0, 1));
        makingIsNoChange(x -> x.join(0, 1, 1));
    }

    private static void merge() {
        about("promise 8: A MERGE: its number. BAD; NO; FULL");
        badTable("merge of", (x, t) -> x.merge(t, 0));
        badTable("merge with", (x, u) -> x.merge(0, u));
        noAndFull(x -> x.merge(0, 8));
        noAndFull(x -> x.merge(8, 0));
        makingIsNoChange(x -> x.merge(1, 0));
    }

    private static void best() {
        about("promise 9: A BEST (n 1 .. 64). BAD; NO; FULL");
        badTable("best of", (x, t) -> x.best(t, 1));
        bad("n", outside(1, 64), (x, n) -> x.best(0, n));
        bad("n below 0", new int[] {-1, -64}, (x, n) -> x.best(0, n));
        for (int n = 1; n <= 64; n++) {
            Used x = withSource();
            due("n " + n, x.best(0, n), 1);
            for (int key = 0; key < KEYS; key++) {
                x.put(0, key, -key);
            }
            due("as many rows", x.of(1, 3), n);
            due("the last one that is in", x.has(1, n - 1), 1);
            due("the first one that is not", x.has(1, n), n < 64 ? 0 : BAD);
        }
        noAndFull(x -> x.best(0, 64));
        noAndFull(x -> x.best(8, 1));
        makingIsNoChange(x -> x.best(0, 64));
    }

    private static void look() {
        about("promise 10: A LOOK: its number. BAD; NO; FULL");
        badTable("look of", (x, t) -> x.look(t, 0));
        badTable("look into", (x, u) -> x.look(0, u));
        noAndFull(x -> x.look(0, 8));
        noAndFull(x -> x.look(8, 0));
        makingIsNoChange(x -> x.look(0, 1));
    }

    /** What put and remove share; the change in question is one of table 0. */
    private static void alter(Asked ofTable, Asked ofKey) {
        badTable("of table", ofTable);
        bad("key", outside(0, 63), ofKey);
        for (int i = 2; i <= 8; i++) {
            int t = i;
            refused("no source: " + t, withAllSorts(), x -> ofTable.on(x, t), BAD);
            refused("no source, in a batch: " + t, inBatch(withAllSorts()), x -> ofTable.on(x, t), BAD);
            refused("no source, in a full batch: " + t, withFullBatch(withAllSorts()), x -> ofTable.on(x, t), BAD);
        }
        refused("no source, with a full log", withFullLog(), x -> ofTable.on(x, 11), BAD);
        refused("a full batch", withFullBatch(withAllSorts()), x -> ofKey.on(x, 5), FULL);
        refused("a full batch, where nothing would change", withFullBatch(withAllSorts()), x -> ofKey.on(x, 50), FULL);
        refused("a full log", withFullLog(), x -> ofKey.on(x, 7), FULL);
        due("a full log, in a batch", inBatch(withFullLog()).call(x -> ofKey.on(x, 7)), 4);
        due("behind a full log that was emptied", withFullLog().again(ChangeRows::forget).call(x -> ofKey.on(x, 7)), 12);
    }

    private static void put() {
        about("promise 11: BAD: also no SOURCE; FULL: THE LOG would have too many, or the BATCH has 40");
        alter((x, t) -> x.put(t, 7, -1), (x, key) -> x.put(0, key, -1));
        Used x = withFullLog();
        due("a full log, nothing changes", x.put(0, 7, 124), 0);
        due("told", x.told(), 0);
        refused("a full log, a row would come", x, y -> y.put(0, 8, 0), FULL);
        about("promise 11: A ROW of a SOURCE has a VALUE (comes, if there is none)");
        x = withSource();
        x.source();
        due("comes with 0", x.put(1, 63, 0), 1);
        rows("comes with 0", x, 1, 63, 0);
        rows("of the other one none", x, 0);
        due("has it", x.put(1, 63, 0), 0);
        due("has another", x.put(1, 63, MIN), 1);
        rows("has another", x, 1, 63, MIN);
    }

    private static void remove() {
        about("promise 12: BAD: also no SOURCE; FULL likewise");
        alter((x, t) -> x.remove(t, 7), (x, key) -> x.remove(0, key));
        about("promise 12: A ROW of a SOURCE goes (if there is none, nothing changes)");
        Used x = withFullLog();
        due("a full log, there is none", x.remove(0, 8), 0);
        due("told", x.told(), 0);
        x = withSource(0, 0, 63, 5);
        due("there is none", x.remove(0, 62), 0);
        rows("nothing changes", x, 0, 0, 0, 63, 5);
        due("one of value 0", x.remove(0, 0), 1);
        due("it is gone", x.remove(0, 0), 0);
        due("the last one", x.remove(0, 63), 1);
        rows("none is left", x, 0);
        due("in a batch one that is not there counts", x.again(ChangeRows::begin).remove(0, 5), 1);
    }

    private static void begin() {
        about("promise 13: A BATCH begins: 1. NO: there is one");
        for (State state : STATES) {
            if (state.used.again().count(1) == NONE) {
                Used x = state.used.again();
                due("begin, " + state.name, x.begin(), 1);
                due("it has none", x.count(1), 0);
                refused("again, " + state.name, x, y -> y.begin(), NO);
            } else {
                refused("begin, " + state.name, state.used, y -> y.begin(), NO);
            }
        }
        due("behind end", withSource().again(ChangeRows::begin, ChangeRows::end).begin(), 1);
        due("behind drop", withSource().again(ChangeRows::begin, ChangeRows::drop).begin(), 1);
        due("behind clear", withSource().again(ChangeRows::begin, ChangeRows::clear).begin(), 1);
    }

    private static void end() {
        about("promise 14: The BATCH ends: how many CHANGES are TOLD. NO: there is none");
        Used x = withAllSorts();
        refused("there is none", x, y -> y.end(), NO);
        refused("there is none at first", new Used(), y -> y.end(), NO);
        x.begin();
        due("none gathered", x.end(), 0);
        due("none told", x.told(), 0);
        refused("ended already", x, y -> y.end(), NO);
        x.begin();
        x.drop();
        refused("dropped already", x, y -> y.end(), NO);
        about("promise 14: FULL: THE LOG would have too many (it goes on)");
        x = inBatch(withFullLog());
        refused("a full log", x, y -> y.end(), FULL);
        x.end();
        due("it goes on", x.count(1), 3);
        due("it gathers", x.put(0, 7, 3), 4);
        due("there is one", x.begin(), NO);
        refused("still full", x, y -> y.end(), FULL);
        due("drop", x.again().drop(), 4);
        due("forget", x.forget(), LOG);
        due("then it ends", x.end(), 2 * TABLES);
        rows("what was gathered", x, 0, 6, 2, 7, 3);
        x = withFullBatch(withTwelve());
        due("40 rows of 12 tables", x.end(), BATCH * TABLES);
        endsFillTheLog();
    }

    /** Ends of batches fill the log to its last change. */
    private static void endsFillTheLog() {
        Used x = withTwelve();
        for (int round = 1; round <= 3; round++) {
            gather(x, BATCH, 1000 * round);
            due("480 more", x.end(), BATCH * TABLES);
        }
        due("logged", x.logged(), 1440);
        gather(x, 6, -1000);
        refused("72 more", x, y -> y.end(), FULL);
        x.drop();
        gather(x, 5, -1000);
        due("60 more", x.end(), 60);
        due("logged then", x.logged(), LOG);
        isChange(x, 1, LOG - 1, 11, 1, 4, 3015, -985);
    }

    private static void gather(Used x, int howMany, int value) {
        x.begin();
        for (int key = 0; key < howMany; key++) {
            x.put(0, key, value + key);
        }
    }

    private static void drop() {
        about("promise 15: The BATCH goes, nothing changes: how many it had gathered. NO: there is none");
        refused("there is none", withAllSorts(), y -> y.drop(), NO);
        refused("there is none at first", new Used(), y -> y.drop(), NO);
        refused("ended already", withSource().again(ChangeRows::begin, ChangeRows::end), y -> y.drop(), NO);
        due("none gathered", withSource().again(ChangeRows::begin).drop(), 0);
        for (Used start : new Used[] {withAllSorts(), withFullLog()}) {
            Used x = inBatch(start);
            due("three gathered", x.drop(), 3);
            alike("nothing changes", start, x);
            refused("dropped already", x, y -> y.drop(), NO);
        }
        Used x = withFullBatch(withAllSorts());
        due("40 gathered", x.drop(), BATCH);
        alike("nothing changes", withAllSorts(), x);
    }

    private static void told() {
        about("promise 16: the last put(), remove() (not in a BATCH), end() that was not refused");
        due("none at first", new Used().told(), 0);
        Used x = withSource();
        due("none yet", x.told(), 0);
        x.map(0, 1, 0);
        x.put(0, 1, 5);
        long[][] two = {one(0, 0, 1, 0, 5), one(1, 0, 1, 0, 5)};
        changes(x, 0, two);
        Used.Call[] others = {y -> y.put(0, 64, 1), y -> y.put(1, 0, 1), y -> y.remove(0, -1), ChangeRows::end,
            ChangeRows::begin, y -> y.put(0, 1, 6), y -> y.remove(0, 1), ChangeRows::begin, ChangeRows::drop,
            ChangeRows::source, ChangeRows::forget, y -> y.net(0, 0, 0), y -> y.copy(0, 0), y -> y.take(0, 9, 0, 1)};
        for (Used.Call call : others) {
            x.call(call);
            due("told as before", x.told(), 2);
            changes(x, 0, two);
        }
        x.put(0, 1, 5);
        due("a put that changes nothing", x.told(), 0);
        changes(x, 0);
        x.put(0, 1, 6);
        due("a put", x.told(), 2);
        x.remove(0, 2);
        due("a remove that changes nothing", x.told(), 0);
        x.remove(0, 1);
        due("a remove", x.told(), 2);
        x.begin();
        x.end();
        due("an end that changes nothing", x.told(), 0);
        x = withFullBatch(withTwelve());
        x.end();
        due("an end that changes much", x.told(), BATCH * TABLES);
        isChange(x, 0, BATCH * TABLES - 1, 11, 0, 40, 0, 151);
        due("none behind them", x.change(0, BATCH * TABLES, 0), BAD);
        x = withFullLog();
        x.put(0, 7, -1);
        due("a put that is refused", x.told(), TABLES);
        x.remove(0, 7);
        due("a remove that is refused", x.told(), TABLES);
        x.begin();
        x.put(0, 7, -1);
        x.end();
        due("an end that is refused", x.told(), TABLES);
        isChange(x, 0, 11, 11, 1, 7, 134, 135);
    }

    /** Two are told, five are logged, one is the net. */
    private static Used withThreeLists() {
        Used x = withSource(9, 1);
        x.map(0, 1, 1);
        x.put(0, 9, 2);
        x.remove(0, 9);
        x.net(1, 0, 5);
        return x;
    }

    private static final int[] SIZES = {2, 5, 1};

    private static void change() {
        about("promise 17: Of CHANGE i of these (where = 0), of THE LOG (1), of the last net() that was not refused (2)");
        Used x = withThreeLists();
        changes(x, 0, one(0, 2, 9, 2, 0), one(1, 2, 9, 3, 0));
        changes(x, 1, one(0, 0, 9, 0, 1), one(0, 1, 9, 1, 2), one(1, 1, 9, 2, 3), one(0, 2, 9, 2, 0),
            one(1, 2, 9, 3, 0));
        changes(x, 2, one(1, 2, 9, 2, 0));
        x.net(1, 5, 4);
        changes(x, 2, one(1, 2, 9, 2, 0));
        x.net(2, 0, 1);
        changes(x, 2, one(1, 2, 9, 2, 0));
        x.forget();
        changes(x, 1);
        changes(x, 2, one(1, 2, 9, 2, 0));
        x.net(0, 0, 0);
        changes(x, 2);
        about("promise 17: BAD: also none such");
        x = withThreeLists();
        for (int i = 0; i < 3; i++) {
            int where = i;
            for (int at : outside(0, SIZES[where] - 1)) {
                refused("i = " + at, x, y -> y.change(where, at, 0), BAD);
                refused("i = " + at, x, y -> y.change(where, at, 2), BAD);
            }
            for (int what : outside(0, 2)) {
                refused("what = " + what, x, y -> y.change(where, 0, what), BAD);
            }
            refused("of an empty list", new Used(), y -> y.change(where, 0, 0), BAD);
        }
        for (int where : outside(0, 2)) {
            refused("where = " + where, x, y -> y.change(where, 0, 0), BAD);
        }
        x = withFullLog();
        isChange(x, 1, 0, 0, 0, 7, 0, 0);
        isChange(x, 1, LOG - 1, 11, 1, 7, 134, 135);
        refused("behind a full log", x, y -> y.change(1, LOG, 0), BAD);
    }

    private static void value() {
        about("promise 18: Its old VALUE (which = 0), its new one (1); 0 where it has none");
        Used x = withSource(9, MIN, 9, MAX);
        x.remove(0, 9);
        changes(x, 1, one(0, 0, 9, 0, MIN), one(0, 1, 9, MIN, MAX), one(0, 2, 9, MAX, 0));
        about("promise 18: 0 where there is none such");
        x = withSource(9, 7, 9, 8, 9, 9);
        x.net(0, 1, 3);
        int[] sizes = {1, 3, 1};
        for (int where = 0; where < 3; where++) {
            for (int i : outside(0, sizes[where] - 1)) {
                due("old, i = " + i, x.value(where, i, 0), 0);
                due("new, i = " + i, x.value(where, i, 1), 0);
            }
            for (int which : outside(0, 1)) {
                due("which = " + which, x.value(where, 0, which), 0);
            }
            due("it has an old one", x.value(where, sizes[where] - 1, 0), where == 2 ? 7 : 8);
            due("it has a new one", x.value(where, sizes[where] - 1, 1), 9);
        }
        for (int where : outside(0, 2)) {
            due("old, where = " + where, x.value(where, 0, 0), 0);
            due("new, where = " + where, x.value(where, 0, 1), 0);
        }
        refused("it changes nothing", x, y -> y.value(1, 3, 1), 0);
    }

    private static void logged() {
        about("promise 19: How many CHANGES THE LOG has");
        due("none at first", new Used().logged(), 0);
        Used x = withSource();
        due("none by a table", x.logged(), 0);
        x.put(0, 1, 1);
        due("one", x.logged(), 1);
        x.put(0, 1, 1);
        due("none more", x.logged(), 1);
        x.put(0, 64, 1);
        due("none by a refusal", x.logged(), 1);
        x.begin();
        x.put(0, 1, 2);
        x.put(0, 2, 2);
        due("none more in a batch", x.logged(), 1);
        x.end();
        due("two more by its end", x.logged(), 3);
        x = withFullLog();
        due("as many as there may be", x.logged(), LOG);
        x.put(0, 7, -1);
        due("not one more", x.logged(), LOG);
    }

    private static void forget() {
        about("promise 20: THE LOG is emptied: how many CHANGES it had");
        due("none at first", new Used().forget(), 0);
        Used x = withFullLog();
        due("as many as there may be", x.forget(), LOG);
        due("none then", x.logged(), 0);
        due("no change", x.change(1, 0, 0), BAD);
        due("forget again", x.forget(), 0);
        due("there is room", x.put(0, 7, -1), TABLES);
        due("logged", x.logged(), TABLES);
        isChange(x, 1, 0, 0, 1, 7, 124, -1);
        x = withAllSorts();
        Used y = inBatch(x);
        int had = y.again().logged();
        due("in a batch", y.forget(), had);
        due("the batch stays", y.count(1), 3);
        due("the copy stays", y.count(2), x.count(2));
        due("rows stay", y.of(6, 3), x.of(6, 3));
        due("net of the empty log", y.net(6, 0, 0), 0);
    }

    private static void net() {
        about("promise 21: between two places of THE LOG (0 .. how many it has, from not above to). BAD");
        badTable("net of", (x, t) -> x.net(t, 0, 0));
        for (State state : STATES) {
            int size = state.used.again().logged();
            for (int place : outside(0, size)) {
                refused("from " + place, state.used, x -> x.net(0, place, size), BAD);
                refused("to " + place, state.used, x -> x.net(0, 0, place), BAD);
                refused("from and to " + place, state.used, x -> x.net(0, place, place), BAD);
            }
            due("from 0 to 0", state.used.again().net(0, 0, 0), 0);
            due("from the end to the end", state.used.again().net(0, size, size), 0);
            if (size > 0) {
                refused("from above to, at the end", state.used, x -> x.net(0, size, size - 1), BAD);
                refused("from above to, at first", state.used, x -> x.net(0, 1, 0), BAD);
                refused("from the end to 0", state.used, x -> x.net(0, size, 0), BAD);
            }
        }
        Used x = withFullLog();
        due("all of a full log", x.net(11, 0, LOG), 1);
        changes(x, 2, one(11, 0, 7, 0, 135));
        due("the last one of a full log", x.net(11, LOG - 1, LOG), 1);
        changes(x, 2, one(11, 1, 7, 134, 135));
        due("all but the last one", x.net(11, 0, LOG - 1), 1);
        changes(x, 2, one(11, 0, 7, 0, 134));
        due("the first one", x.net(0, 0, 1), 1);
        changes(x, 2, one(0, 0, 7, 0, 0));
        due("none", x.net(11, 0, 11), 0);
        changes(x, 2);
    }

    private static void copy() {
        about("promise 22: as it was behind the first n CHANGES of THE LOG (from BASE on). BAD");
        badTable("copy of", (x, t) -> x.copy(t, 0));
        for (State state : STATES) {
            int size = state.used.again().logged();
            for (int n : outside(0, size)) {
                refused("n = " + n, state.used, x -> x.copy(0, n), BAD);
            }
            Used x = state.used.again();
            due("behind all", x.copy(0, size), x.of(0, 3));
            due("the same as the table", x.same(0), 1);
        }
        Used x = withFullLog();
        due("behind none", x.copy(11, 0), 0);
        rows("behind none", x, -1);
        due("before its first one", x.copy(11, 11), 0);
        due("behind its first one", x.copy(11, 12), 1);
        rows("behind its first one", x, -1, 7, 11);
        due("behind all but the last one", x.copy(11, LOG - 1), 1);
        rows("behind all but the last one", x, -1, 7, 134);
        due("behind all", x.copy(11, LOG), 1);
        rows("behind all", x, -1, 7, 135);
        x.take(0, 3, 0, 3);
        due("what it had is gone", x.copy(0, 0), 0);
        rows("what it had is gone", x, -1);
        x = withSource();
        for (int key = 0; key < KEYS; key++) {
            x.put(0, key, 0);
        }
        due("a row for each key", x.copy(0, KEYS), KEYS);
        due("all but one", x.copy(0, KEYS - 1), KEYS - 1);
        due("the last one is not there", x.has(-1, 63), 0);
    }

    private static void take() {
        about("promise 23: THE COPY takes a CHANGE (sort 0 .. 2). BAD");
        bad("sort", outside(0, 2), (x, sort) -> x.take(sort, 40, 4, 5));
        bad("COME of key", outside(0, 63), (x, key) -> x.take(0, key, 0, 1));
        bad("OTHER of key", outside(0, 63), (x, key) -> x.take(1, key, 0, 1));
        bad("GONE of key", outside(0, 63), (x, key) -> x.take(2, key, 0, 1));
        about("promise 23: of old and now what it has alone counts");
        Used x = new Used();
        due("COME, old is free", x.take(0, 0, MAX, MIN), 0);
        rows("COME", x, -1, 0, MIN);
        due("OTHER, both count", x.take(1, 0, MIN, MAX), 0);
        rows("OTHER", x, -1, 0, MAX);
        due("OTHER of the same value", x.take(1, 0, MAX, MAX), 0);
        rows("OTHER of the same value", x, -1, 0, MAX);
        due("GONE, now is free", x.take(2, 0, MAX, MIN), 0);
        rows("GONE", x, -1);
        for (int key = 0; key < KEYS; key++) {
            due("COME of each key", x.take(0, key, 5, 0), 0);
        }
        due("a row for each", x.count(2), KEYS);
        for (int key = 0; key < KEYS; key++) {
            due("GONE of each key", x.take(2, key, 0, 5), 0);
        }
        due("a row for none", x.count(2), 0);
        about("promise 23: 1 to 3, the first that it breaks (it is not taken then)");
        x = new Used();
        x.take(0, 63, 0, 8);
        refused("1", x, y -> y.take(0, 63, 8, 9), 1);
        refused("2 by OTHER", x, y -> y.take(1, 62, 8, 9), 2);
        refused("2 by GONE", x, y -> y.take(2, 0, 8, 9), 2);
        refused("3 by OTHER", x, y -> y.take(1, 63, 7, 9), 3);
        refused("3 by GONE", x, y -> y.take(2, 63, 9, 9), 3);
    }

    private static void same() {
        about("promise 24: Whether THE COPY has the ROWS of a TABLE: 1, 0. BAD");
        badTable("same as", (x, t) -> x.same(t));
        Used x = withSource();
        due("both without rows", x.same(0), 1);
        x.take(0, 0, 0, 0);
        due("the copy has a row of value 0", x.same(0), 0);
        x.put(0, 63, 0);
        due("other keys", x.same(0), 0);
        x.put(0, 0, 0);
        due("the table has one more", x.same(0), 0);
        x.take(0, 63, 0, 0);
        due("both have all", x.same(0), 1);
        x.take(1, 63, 0, 1L << 32);
        due("the last one has another value", x.same(0), 0);
        x.put(0, 63, 1L << 32);
        due("not any more", x.same(0), 1);
        x.take(1, 0, 0, -1);
        due("the first one has another value", x.same(0), 0);
    }

    private static void has() {
        about("promise 25: Whether a TABLE (-1: THE COPY) has a ROW of a KEY: 1, 0. BAD");
        for (State state : STATES) {
            int tables = state.used.again().count(0);
            for (int t : new int[] {-2, tables, Integer.MIN_VALUE, Integer.MAX_VALUE}) {
                refused("t = " + t, state.used, x -> x.has(t, 0), BAD);
            }
            for (int key : outside(0, 63)) {
                refused("key = " + key, state.used, x -> x.has(0, key), BAD);
                refused("key of the last one = " + key, state.used, x -> x.has(tables - 1, key), BAD);
                refused("key of the copy = " + key, state.used, x -> x.has(-1, key), BAD);
            }
        }
        Used x = withSource(0, 0, 63, 0);
        x.take(0, 1, 0, 0);
        x.take(0, 62, 0, 0);
        int[] keys = {0, 1, 62, 63};
        int[] ofTable = {1, 0, 0, 1};
        for (int i = 0; i < keys.length; i++) {
            due("table, key " + keys[i], x.has(0, keys[i]), ofTable[i]);
            due("copy, key " + keys[i], x.has(-1, keys[i]), 1 - ofTable[i]);
        }
        due("the copy of an object without tables", new Used().has(-1, 0), 0);
        due("a table of it", new Used().has(0, 0), BAD);
    }

    private static void at() {
        about("promise 26: The VALUE of a KEY in a TABLE (-1: THE COPY); 0: there is none such");
        Used x = withSource(0, MIN, 63, MAX);
        x.take(0, 1, 0, 5);
        due("first key", x.at(0, 0), MIN);
        due("last key", x.at(0, 63), MAX);
        due("no row", x.at(0, 1), 0);
        due("of the copy", x.at(-1, 1), 5);
        due("no row of the copy", x.at(-1, 0), 0);
        for (int t : new int[] {-2, 1, 12, Integer.MIN_VALUE, Integer.MAX_VALUE}) {
            for (int key = 0; key < 2; key++) {
                due("t = " + t, x.at(t, key), 0);
            }
        }
        for (int key : outside(0, 63)) {
            due("key = " + key, x.at(0, key), 0);
            due("key of the copy = " + key, x.at(-1, key), 0);
        }
        refused("it changes nothing", x, y -> y.at(0, 64), 0);
        x.remove(0, 63);
        due("the row is gone", x.at(0, 63), 0);
        x.take(2, 1, 5, 0);
        due("the copy's row is gone", x.at(-1, 1), 0);
    }

    private static void of() {
        about("promise 27: 0 its sort, 1 t (NONE: of a SOURCE), 2 u (NONE: it has none), 3 how many ROWS. BAD");
        badTable("of", (x, t) -> x.of(t, 0));
        badTable("rows of", (x, t) -> x.of(t, 3));
        bad("what", outside(0, 3), (x, what) -> x.of(0, what));
        int[][] want = {{0, NONE, NONE}, {0, NONE, NONE}, {1, 0, NONE}, {2, 0, NONE}, {3, 0, NONE}, {4, 0, 1}, {5, 0, 1},
            {6, 0, NONE}, {7, 0, 1}};
        Used x = withAllSorts();
        for (int t = 0; t < want.length; t++) {
            for (int what = 0; what < 3; what++) {
                due("of(" + t + ", " + what + ")", x.of(t, what), want[t][what]);
            }
        }
        x = withTwelve();
        due("t of the last one", x.of(11, 1), 10);
        due("no rows", x.of(11, 3), 0);
        x = withSource();
        for (int key = 0; key < KEYS; key++) {
            due("rows", x.of(0, 3), key);
            x.put(0, key, 0);
        }
        due("a row for each key", x.of(0, 3), KEYS);
    }

    private static void count() {
        about("promise 28: 0 how many TABLES, 1 how many the BATCH has gathered (NONE: there is none), 2 ROWS. BAD");
        bad("what", outside(0, 2), (x, what) -> x.count(what));
        Used x = withSource();
        due("one table", x.count(0), 1);
        due("no batch", x.count(1), NONE);
        due("no rows", x.count(2), 0);
        x.begin();
        due("a batch without any", x.count(1), 0);
        x.put(0, 64, 0);
        due("none by a refusal", x.count(1), 0);
        x.put(0, 63, 0);
        due("one", x.count(1), 1);
        x.remove(0, 63);
        due("two of one key", x.count(1), 2);
        x.end();
        due("no batch again", x.count(1), NONE);
        x = withFullBatch(withTwelve());
        due("all tables", x.count(0), TABLES);
        due("a full batch", x.count(1), BATCH);
        x.drop();
        due("no batch behind drop", x.count(1), NONE);
        x.take(0, 63, 0, 0);
        due("one row", x.count(2), 1);
        x.take(0, 63, 0, 0);
        due("one row still", x.count(2), 1);
        x.take(2, 63, 0, 0);
        due("no rows again", x.count(2), 0);
    }
}
