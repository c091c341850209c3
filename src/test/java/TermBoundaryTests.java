/** Each sentence of 'What it is' and 'Terms' that names a boundary case: on the bound and beyond it. */
public final class TermBoundaryTests extends Checks {
    public static void main(String[] args) {
        howManyCalls();
        callsBeyond();
        howManyTables();
        keys();
        valuesOf64Bits();
        sumsWrap();
        productsWrap();
        tablesMadeBefore();
        tOrUMayBeOne();
        filterFromLowToHigh();
        mapOfEachRow();
        foldKeysModuloG();
        foldKinds();
        joinOfKeysThatBothHave();
        mergeOfKeysThatTHasNot();
        bestOfMoreAndFewer();
        bestOfEqualOnes();
        lookModulo64();
        come();
        other();
        gone();
        toldByTablesAndKeys();
        toldButOnce();
        toldAtMost();
        logOf1500();
        baseWhenLogWasEmptyLast();
        baseWhenMade();
        batchOf40();
        batchInTheirOrder();
        batchUntilThen();
        netOneForAKey();
        netByKeys();
        netFromBaseOn();
        copyBreaksFirst();
        copyBreaksSecond();
        copyBreaksThird();
        badFirst();
        inTheOrderNamed();
        finish("all boundaries of the terms hold");
    }

    private interface Maker {
        int make(Used x);
    }

    /** Of each sort that follows others, with table 0. */
    private static final Maker[] MAKERS = {x -> x.source(), x -> x.filter(0, 0, 9), x -> x.map(0, 1, 1),
        x -> x.fold(0, 0, 2), x -> x.join(0, 0, 0), x -> x.merge(0, 0), x -> x.best(0, 1), x -> x.look(0, 0)};

    private static void howManyCalls() {
        about("an object is used for at most 512 calls");
        Used x = new Used();
        due("call 1", x.source(), 0);
        due("call 2", x.fold(0, 1, 1), 1);
        for (int i = 3; i <= 511; i++) {
            due("call " + i, x.put(0, i % 64, i), 2);
        }
        due("call 512, source()", x.again().source(), 2);
        due("call 512, put()", x.again().put(0, 0, -1), 2);
        due("call 512, remove()", x.again().remove(0, 63), 2);
        due("call 512, told()", x.again().told(), 2);
        due("call 512, logged()", x.again().logged(), 1018);
        due("call 512, at()", x.again().at(1, 0), 30688);
        due("call 512, net()", x.again().net(0, 0, 1018), 64);
        due("call 512, copy()", x.again().copy(0, 1018), 64);
        due("call 512, begin()", x.again().begin(), 1);
        due("call 512, forget()", x.again().forget(), 1018);
        due("call 512, clear()", x.again().clear(), 2);
        due("calls that are left", x.left(), 1);
    }

    private static void callsBeyond() {
        about("what later calls answer is free (but none throws)");
        ChangeRows x = new ChangeRows();
        x.source();
        x.best(0, 3);
        for (int i = 0; i < 3000; i++) {
            x.put(i % 2, i % 70, i);
            x.net(1, 0, x.logged());
            x.copy(1, x.logged());
            x.fold(0, i % 5, 1 + i % 64);
            x.change(i % 3, i, i % 3);
            x.value(i % 3, i, i % 2);
        }
        due("rows are as many as keys at most", x.of(0, 3) <= 64 ? 1 : 0, 1);
    }

    private static void howManyTables() {
        about("TABLES 0, 1, .., 12 at most");
        for (int sort = 0; sort < MAKERS.length; sort++) {
            Maker maker = MAKERS[sort];
            Used x = withSource(1, 5);
            for (int t = 1; t < TABLES; t++) {
                due("table " + t + " of sort " + sort, maker.make(x), t);
                due("count(0)", x.count(0), t + 1);
            }
            due("sort of the last one", x.of(11, 0), sort);
            due("there is none behind it", x.of(12, 0), BAD);
            Used y = x.again();
            due("one too many of sort " + sort, maker.make(y), FULL);
            alike("one too many of sort " + sort, x, y);
            due("clear", x.clear(), TABLES);
            due("the first one again", x.source(), 0);
            due("the second one again", maker.make(x), 1);
        }
    }

    private static void keys() {
        about("ROWS: for some of the KEYS 0 .. 63");
        Used x = withSource();
        due("put 0", x.put(0, 0, 10), 1);
        due("put 63", x.put(0, 63, 73), 1);
        rows("first and last", x, 0, 0, 10, 63, 73);
        for (int key : outside(0, 63)) {
            refused("put of key " + key, x, y -> y.put(0, key, 1), BAD);
            refused("remove of key " + key, x, y -> y.remove(0, key), BAD);
            refused("take of key " + key, x, y -> y.take(0, key, 0, 1), BAD);
            refused("has of key " + key, x, y -> y.has(0, key), BAD);
            refused("at of key " + key, x, y -> y.at(0, key), 0);
        }
        for (int key = 1; key < 63; key++) {
            due("put " + key, x.put(0, key, 10 + key), 1);
        }
        due("a row for each", x.of(0, 3), 64);
        for (int key = 0; key < 64; key++) {
            due("at " + key, x.at(0, key), 10 + key);
            due("remove " + key, x.remove(0, key), 1);
        }
        rows("a row for none", x, 0);
    }

    private static void valuesOf64Bits() {
        about("a VALUE (64 bits)");
        for (long v : new long[] {MIN, MIN + 1, -1L << 32, -1, 0, 1, 1L << 31, 1L << 32, MAX - 1, MAX}) {
            long next = v + 1;
            Used x = withSource(9, v);
            rows("put " + v, x, 0, 9, v);
            isChange(x, 0, 0, 0, 0, 9, 0, v);
            due("another", x.put(0, 9, next), 1);
            isChange(x, 0, 0, 0, 1, 9, v, next);
            due("gone", x.remove(0, 9), 1);
            isChange(x, 1, 2, 0, 2, 9, next, 0);
            due("copy", x.copy(0, 1), 1);
            rows("copy", x, -1, 9, v);
            due("take of another old", x.take(1, 9, next, 5), 3);
            due("take", x.take(1, 9, v, next), 0);
            rows("taken", x, -1, 9, next);
            due("net", x.net(0, 1, 2), 1);
            changes(x, 2, one(0, 1, 9, v, next));
        }
    }

    private static void sumsWrap() {
        about("all sums wrap");
        long[][] sums = {{MAX, 0, MAX}, {MAX, 1, MIN}, {MIN, 0, MIN}, {MIN, -1, MAX}, {MAX - 1, 1, MAX},
            {MIN + 1, -1, MIN}, {MIN, MIN, 0}, {MAX, MAX, -2}, {MAX, MIN, -1}};
        for (long[] sum : sums) {
            Used x = withSource(3, sum[0], 7, sum[1]);
            x.fold(0, 1, 4);
            rows("sum of a fold", x, 1, 3, sum[2]);
            x = withSource(3, sum[0]);
            x.source();
            x.put(1, 3, sum[1]);
            x.join(0, 1, 0);
            rows("sum of a join", x, 2, 3, sum[2]);
            x.join(1, 0, 1);
            rows("sum of a join the other way", x, 3, 3, sum[2]);
        }
        Used x = withSource();
        x.fold(0, 1, 1);
        x.join(0, 0, 1);
        for (int key = 0; key < 64; key++) {
            x.put(0, key, MAX);
        }
        due("64 greatest ones", x.at(1, 0), -64);
        due("twice the greatest one", x.at(2, 63), -2);
    }

    private static void productsWrap() {
        about("all products wrap");
        long[][] maps = {{MAX, 1, 0, MAX}, {MAX, 1, 1, MIN}, {MIN, 1, 0, MIN}, {MIN, 1, -1, MAX}, {MIN, -1, 0, MIN},
            {MAX, -1, -1, MIN}, {MAX, 2, 0, -2}, {MIN, 2, 0, 0}, {1L << 54, 1000, 0, -24L << 54},
            {9223372036854775L, 1000, 807, MAX}, {9223372036854775L, 1000, 808, MIN},
            {-9223372036854775L, 1000, -808, MIN}, {-9223372036854775L, 1000, -809, MAX},
            {9223372036854775L, -1000, -808, MIN}, {1L << 32, 1000, 1, (1000L << 32) + 1}};
        for (long[] map : maps) {
            Used x = withSource(63, map[0]);
            x.map(0, (int) map[1], (int) map[2]);
            rows(map[1] + " times " + map[0] + " and " + map[2], x, 1, 63, map[3]);
        }
    }

    private static void tablesMadeBefore() {
        about("by TABLES that were made before");
        Used x = withSource(1, 5);
        x.source();
        x.map(1, 1, 0);
        int next = 3;
        due("the last one made", x.again().map(next - 1, 1, 1), next);
        refused("filter of itself", x, y -> y.filter(next, 0, 1), BAD);
        refused("map of itself", x, y -> y.map(next, 1, 1), BAD);
        refused("fold of itself", x, y -> y.fold(next, 0, 1), BAD);
        refused("join of itself", x, y -> y.join(next, 0, 0), BAD);
        refused("join with itself", x, y -> y.join(0, next, 0), BAD);
        refused("merge of itself", x, y -> y.merge(next, 0), BAD);
        refused("merge with itself", x, y -> y.merge(0, next), BAD);
        refused("best of itself", x, y -> y.best(next, 1), BAD);
        refused("look of itself", x, y -> y.look(next, 0), BAD);
        refused("look into itself", x, y -> y.look(0, next), BAD);
        due("join of the last ones", x.join(next - 1, next - 1, 0), next);
        due("look of the last and the first", x.look(next, 0), next + 1);
        due("merge of the first and the last", x.merge(0, next + 1), next + 2);
    }

    private static void tOrUMayBeOne() {
        about("t, u; which may be one");
        Used x = withSource(0, 63, 5, 0, 63, 6, 6, 7);
        due("join", x.join(0, 0, 0), 1);
        rows("join", x, 1, 0, 126, 5, 0, 63, 12, 6, 14);
        due("join of kind 1", x.join(0, 0, 1), 2);
        rows("join of kind 1", x, 2, 0, 126, 5, 0, 63, 12, 6, 14);
        due("merge", x.merge(0, 0), 3);
        rows("merge", x, 3, 0, 63, 5, 0, 63, 6, 6, 7);
        due("look", x.look(0, 0), 4);
        rows("look", x, 4, 0, 6, 5, 63, 63, 7);
        due("all follow", x.put(0, 0, 5), 5 + 1);
        rows("look then", x, 4, 0, 0, 5, 5, 63, 7);
        due("all follow what goes", x.remove(0, 0), 5 + 1);
        rows("look at last", x, 4, 63, 7);
    }

    private static void filterFromLowToHigh() {
        about("FILTER: those ROWS of t whose VALUE is low .. high");
        Used x = withSource(0, -6, 1, -5, 2, 7, 3, 8, 4, MIN, 5, MAX, 6, 1L << 32);
        x.filter(0, -5, 7);
        rows("low and high are in, what is beyond is not", x, 1, 1, -5, 2, 7);
        x.filter(0, 7, 7);
        rows("low is high", x, 2, 2, 7);
        x.filter(0, MIN, MIN);
        rows("the least value alone", x, 3, 4, MIN);
        x.filter(0, MAX, MAX);
        rows("the greatest value alone", x, 4, 5, MAX);
        x.filter(0, MIN, MAX);
        due("all values", x.of(5, 3), 7);
        x.filter(0, MIN + 1, MAX - 1);
        rows("all but the least and the greatest", x, 6, 0, -6, 1, -5, 2, 7, 3, 8, 6, 1L << 32);
        x.filter(0, 1L << 32, 1L << 32);
        rows("bounds of 64 bits", x, 7, 6, 1L << 32);
        x.filter(0, 9, 10);
        rows("no row is in", x, 8);
        x.filter(8, MIN, MAX);
        rows("of a table without rows", x, 9);
    }

    private static void mapOfEachRow() {
        about("MAP: for each ROW of t the same KEY");
        Used x = withSource();
        x.map(0, 0, 0);
        rows("of a table without rows", x, 1);
        x.put(0, 0, 4);
        x.put(0, 63, 5);
        rows("a row of value 0 for each", x, 1, 0, 0, 63, 0);
        due("the source alone changes", x.put(0, 63, 6), 1);
        due("both go", x.remove(0, 63), 2);
        rows("then", x, 1, 0, 0);
    }

    private static void foldKeysModuloG() {
        about("FOLD: for each KEY k below g such that t has ROWS with KEYS that are k modulo g");
        Used x = withSource();
        x.fold(0, 4, 1);
        x.fold(0, 4, 2);
        x.fold(0, 4, 63);
        x.fold(0, 4, 64);
        for (int t = 1; t < 5; t++) {
            rows("of a table without rows", x, t);
        }
        due("key 0", x.put(0, 0, 5), 5);
        due("key 62", x.put(0, 62, 5), 5);
        due("key 63", x.put(0, 63, 5), 5);
        rows("g = 1", x, 1, 0, 63);
        rows("g = 2", x, 2, 0, 62, 1, 63);
        rows("g = 63", x, 3, 0, 63, 62, 62);
        rows("g = 64", x, 4, 0, 0, 62, 62, 63, 63);
        due("the last row of a group goes", x.remove(0, 63), 5);
        rows("g = 1 then", x, 1, 0, 62);
        rows("g = 2 then", x, 2, 0, 62);
        rows("g = 63 then", x, 3, 0, 0, 62, 62);
        rows("g = 64 then", x, 4, 0, 0, 62, 62);
        x.remove(0, 0);
        due("the last row goes", x.remove(0, 62), 5);
        for (int t = 1; t < 5; t++) {
            rows("without rows again", x, t);
        }
    }

    private static void foldKinds() {
        about("FOLD: kind 0 how many, 1 the sum, 2 the least one, 3 the greatest one, 4 the greatest KEY");
        Used x = withSource();
        for (int kind = 0; kind < 5; kind++) {
            x.fold(0, kind, 1);
        }
        due("one row", x.put(0, 9, MIN), 6);
        long[] ofOne = {1, MIN, MIN, MIN, 9};
        for (int kind = 0; kind < 5; kind++) {
            rows("kind " + kind + " of one row", x, 1 + kind, 0, ofOne[kind]);
        }
        due("another of the greatest value", x.put(0, 8, MAX), 4);
        long[] ofTwo = {2, -1, MIN, MAX, 9};
        for (int kind = 0; kind < 5; kind++) {
            rows("kind " + kind + " of two rows", x, 1 + kind, 0, ofTwo[kind]);
        }
        for (int key = 0; key < 64; key++) {
            x.put(0, key, 100 - key);
        }
        long[] ofAll = {64, 6400 - 2016, 37, 100, 63};
        for (int kind = 0; kind < 5; kind++) {
            rows("kind " + kind + " of all rows", x, 1 + kind, 0, ofAll[kind]);
        }
        x = withSource(4, 5, 6, -5);
        x.fold(0, 1, 2);
        rows("a sum of 0 is a row", x, 1, 0, 0);
    }

    private static void joinOfKeysThatBothHave() {
        about("JOIN: for each KEY that both have both VALUES together; with kind 1 also for each that t alone has");
        Used x = withSource(0, 1, 5, 2, 63, 0);
        x.source();
        x.join(0, 1, 0);
        x.join(0, 1, 1);
        rows("u without rows", x, 2);
        rows("u without rows, kind 1", x, 3, 0, 1, 5, 2, 63, 0);
        x.put(1, 0, 0);
        x.put(1, 6, 3);
        x.put(1, 63, 4);
        rows("what both have", x, 2, 0, 1, 63, 4);
        rows("what t has", x, 3, 0, 1, 5, 2, 63, 4);
        x.join(1, 0, 1);
        rows("what t has, the other way", x, 4, 0, 1, 6, 3, 63, 4);
        due("u comes with 0: kind 1 stays", x.put(1, 5, 0), 3);
        rows("what both have then", x, 2, 0, 1, 5, 2, 63, 4);
        x.remove(0, 0);
        x.remove(0, 5);
        x.remove(0, 63);
        rows("t without rows", x, 2);
        rows("t without rows, kind 1", x, 3);
    }

    private static void mergeOfKeysThatTHasNot() {
        about("MERGE: all ROWS of t, and those of u whose KEYS t has not");
        Used x = withSource();
        x.source();
        x.merge(0, 1);
        rows("both without rows", x, 2);
        due("u alone", x.put(1, 63, 8), 2);
        rows("u alone", x, 2, 63, 8);
        due("t has it with value 0", x.put(0, 63, 0), 2);
        rows("t has it with value 0", x, 2, 63, 0);
        due("u is hidden", x.put(1, 63, 9), 1);
        due("u is hidden and goes", x.remove(1, 63), 1);
        rows("t alone", x, 2, 63, 0);
        x.put(1, 0, 3);
        x.put(0, 1, 4);
        rows("keys of both", x, 2, 0, 3, 1, 4, 63, 0);
        due("t has the same as u", x.put(0, 0, 3), 1);
        rows("then", x, 2, 0, 3, 1, 4, 63, 0);
    }

    private static void bestOfMoreAndFewer() {
        about("BEST: the n ROWS of t of greatest VALUE (all, if there are not so many)");
        Used x = withSource();
        x.best(0, 1);
        x.best(0, 2);
        x.best(0, 3);
        x.best(0, 4);
        for (int t = 1; t < 5; t++) {
            rows("of a table without rows", x, t);
        }
        x.put(0, 63, MIN);
        x.put(0, 0, MAX);
        x.put(0, 9, 0);
        rows("1 of 3", x, 1, 0, MAX);
        rows("2 of 3", x, 2, 0, MAX, 9, 0);
        rows("3 of 3", x, 3, 0, MAX, 9, 0, 63, MIN);
        rows("4 of 3", x, 4, 0, MAX, 9, 0, 63, MIN);
        due("the greatest one goes", x.remove(0, 0), 1 + 2 + 2 + 1 + 1);
        rows("1 of 2", x, 1, 9, 0);
        rows("2 of 2", x, 2, 9, 0, 63, MIN);
        rows("3 of 2", x, 3, 9, 0, 63, MIN);
        x = withSource();
        x.best(0, 63);
        x.best(0, 64);
        for (int key = 0; key < 64; key++) {
            x.put(0, key, key % 2 == 0 ? key : -key);
        }
        due("63 of 64", x.of(1, 3), 63);
        due("the least one is not among them", x.has(1, 63), 0);
        due("64 of 64", x.of(2, 3), 64);
    }

    private static void bestOfEqualOnes() {
        about("BEST: of several the ones of lesser KEY");
        Used x = withSource(63, 5, 40, 5, 2, 5, 3, 4, 0, 6);
        x.best(0, 1);
        rows("1", x, 1, 0, 6);
        x.best(0, 2);
        rows("2", x, 2, 0, 6, 2, 5);
        x.best(0, 3);
        rows("3", x, 3, 0, 6, 2, 5, 40, 5);
        x.best(0, 4);
        rows("4", x, 4, 0, 6, 2, 5, 40, 5, 63, 5);
        x.best(0, 5);
        due("5", x.of(5, 3), 5);
        due("a lesser key takes the place", x.put(0, 1, 5), 1 + 0 + 2 + 2 + 2 + 2);
        rows("2 then", x, 2, 0, 6, 1, 5);
        rows("4 then", x, 4, 0, 6, 1, 5, 2, 5, 40, 5);
        rows("5 then", x, 5, 0, 6, 1, 5, 2, 5, 40, 5, 63, 5);
        due("a greater key does not", x.put(0, 62, 5), 1 + 2);
        rows("4 at last", x, 4, 0, 6, 1, 5, 2, 5, 40, 5);
        rows("5 at last", x, 5, 0, 6, 1, 5, 2, 5, 40, 5, 62, 5);
    }

    private static void lookModulo64() {
        about("LOOK: the KEY that its VALUE is modulo 64 (0 .. 63)");
        long[][] looks = {{0, 0}, {1, 1}, {62, 62}, {63, 63}, {64, 0}, {65, 1}, {127, 63}, {128, 0}, {-1, 63}, {-2, 62},
            {-63, 1}, {-64, 0}, {-65, 63}, {MAX, 63}, {MAX - 63, 0}, {MIN, 0}, {MIN + 63, 63}, {MIN + 64, 0}};
        for (long[] look : looks) {
            int key = (int) look[1];
            Used x = withSource(63, look[0]);
            x.source();
            x.look(0, 1);
            x.put(1, key == 0 ? 63 : key - 1, 4);
            x.put(1, key == 63 ? 0 : key + 1, 5);
            rows(look[0] + " beside " + key, x, 2);
            due(look[0] + " and " + key, x.put(1, key, 6), 2);
            rows(look[0] + " and " + key, x, 2, 63, 6);
            due("a value of 0", x.put(1, key, 0), 2);
            rows("a value of 0", x, 2, 63, 0);
        }
        Used x = withSource();
        x.source();
        x.put(1, 0, 3);
        x.look(0, 1);
        rows("a table without rows has no value 0", x, 2);
    }

    private static void come() {
        about("0 COME: it had no ROW, and has a VALUE now");
        Used x = withSource();
        due("a value of 0", x.put(0, 63, 0), 1);
        changes(x, 0, one(0, 0, 63, 0, 0));
        due("another row", x.put(0, 0, -1), 1);
        changes(x, 0, one(0, 0, 0, 0, -1));
        x.remove(0, 63);
        due("again", x.put(0, 63, 0), 1);
        changes(x, 0, one(0, 0, 63, 0, 0));
    }

    private static void other() {
        about("1 OTHER: it had one VALUE, and has another one now");
        Used x = withSource(63, 0);
        due("the same value", x.put(0, 63, 0), 0);
        changes(x, 0);
        due("one more", x.put(0, 63, 1), 1);
        changes(x, 0, one(0, 1, 63, 0, 1));
        due("0 again", x.put(0, 63, 0), 1);
        changes(x, 0, one(0, 1, 63, 1, 0));
        due("other by the high bits alone", x.put(0, 63, 1L << 32), 1);
        changes(x, 0, one(0, 1, 63, 0, 1L << 32));
        due("the same again", x.put(0, 63, 1L << 32), 0);
        due("logged", x.logged(), 4);
    }

    private static void gone() {
        about("2 GONE: it had one, and has none now");
        Used x = withSource(0, 0, 63, 9);
        due("a value of 0", x.remove(0, 0), 1);
        changes(x, 0, one(0, 2, 0, 0, 0));
        due("there is none", x.remove(0, 0), 0);
        changes(x, 0);
        due("the last row", x.remove(0, 63), 1);
        changes(x, 0, one(0, 2, 63, 9, 0));
        due("logged", x.logged(), 4);
    }

    private static void toldByTablesAndKeys() {
        about("What a call changes is TOLD by TABLES, in each by KEYS, and comes behind THE LOG in this order");
        Used x = withSource(63, 1);
        x.source();
        x.merge(0, 1);
        x.best(2, 2);
        x.begin();
        x.put(1, 62, 2);
        x.put(1, 0, 3);
        x.remove(0, 63);
        x.put(0, 1, 4);
        due("end", x.end(), 11);
        long[][] all = {one(0, 0, 1, 0, 4), one(0, 2, 63, 1, 0), one(1, 0, 0, 0, 3), one(1, 0, 62, 0, 2),
            one(2, 0, 0, 0, 3), one(2, 0, 1, 0, 4), one(2, 0, 62, 0, 2), one(2, 2, 63, 1, 0),
            one(3, 0, 0, 0, 3), one(3, 0, 1, 0, 4), one(3, 2, 63, 1, 0)};
        changes(x, 0, all);
        isChange(x, 1, 0, 0, 0, 63, 0, 1);
        for (int i = 0; i < all.length; i++) {
            isChange(x, 1, 1 + i, all[i]);
        }
        due("logged", x.logged(), 12);
    }

    private static void toldButOnce() {
        about("each but once (on the whole)");
        Used x = withSource(1, 10, 2, 20);
        x.map(0, 1, 0);
        x.begin();
        x.put(0, 1, 11);
        x.put(0, 1, 12);
        x.put(0, 2, 21);
        x.put(0, 2, 20);
        x.put(0, 3, 30);
        x.remove(0, 3);
        x.remove(0, 2);
        x.put(0, 2, 22);
        due("end", x.end(), 4);
        changes(x, 0, one(0, 1, 1, 10, 12), one(0, 1, 2, 20, 22), one(1, 1, 1, 10, 12), one(1, 1, 2, 20, 22));
        x.begin();
        x.remove(0, 1);
        x.put(0, 1, 12);
        x.put(0, 4, 1);
        x.remove(0, 4);
        due("nothing on the whole", x.end(), 0);
        changes(x, 0);
        x = withSource();
        x.map(0, 1, 0);
        x.join(0, 1, 0);
        due("a table that follows by two ways", x.put(0, 5, 1), 3);
        changes(x, 0, one(0, 0, 5, 0, 1), one(1, 0, 5, 0, 1), one(2, 0, 5, 0, 2));
    }

    /** A batch changes 40 rows of a source, and by one of them every row of eleven tables. */
    private static void toldAtMost() {
        about("What a call changes is TOLD, all of it");
        Used x = withSource();
        for (int key = 0; key < KEYS; key++) {
            x.put(0, key, KEYS * key);
        }
        x.look(0, 0);
        for (int t = 2; t < TABLES; t++) {
            x.map(t - 1, 1, 0);
        }
        due("a single put", x.again().put(0, 0, KEYS), 1 + 11 * KEYS);
        x.begin();
        for (int key = 0; key < BATCH; key++) {
            x.put(0, key, -KEYS - KEYS * key);
        }
        int most = BATCH + 11 * KEYS;
        due("end", x.end(), most);
        due("told", x.told(), most);
        due("logged", x.logged(), KEYS + most);
        for (int i = 0; i < most; i++) {
            int t = i < BATCH ? 0 : 1 + (i - BATCH) / KEYS;
            int key = i < BATCH ? i : (i - BATCH) % KEYS;
            long old = t == 0 ? KEYS * key : 0;
            long now = t == 0 ? -KEYS - KEYS * key : -KEYS;
            isChange(x, 0, i, t, 1, key, old, now);
            isChange(x, 1, KEYS + i, t, 1, key, old, now);
        }
        due("none behind them", x.change(0, most, 0), BAD);
    }

    /** 1499 changes: the log has room for one. A source of its own makes single changes. */
    private static Used withLogOf1499() {
        Used x = withSource();
        for (int t = 1; t < TABLES - 1; t++) {
            x.map(0, 1, t);
        }
        x.source();
        for (int i = 0; i < 136; i++) {
            x.put(0, 7, i);
        }
        x.put(11, 63, 1);
        x.put(11, 63, 2);
        x.put(11, 62, 3);
        due("logged", x.logged(), LOG - 1);
        return x;
    }

    private static void logOf1500() {
        about("THE LOG (1500 CHANGES at most)");
        Used x = withLogOf1499();
        refused("11 more by put", x, y -> y.put(0, 7, -1), FULL);
        refused("11 more by remove", x, y -> y.remove(0, 7), FULL);
        Used y = x.again(ChangeRows::begin, z -> z.put(11, 0, 1), z -> z.put(11, 1, 1));
        refused("two more by end", y, z -> z.end(), FULL);
        due("one more by end", x.again(ChangeRows::begin, z -> z.put(11, 0, 1)).end(), 1);
        due("one more by put", x.again().put(11, 63, 3), 1);
        due("one more by remove", x.remove(11, 63), 1);
        due("logged", x.logged(), LOG);
        isChange(x, 1, LOG - 1, 11, 2, 63, 2, 0);
        due("none behind it", x.change(1, LOG, 0), BAD);
        refused("one too many by put", x, z -> z.put(11, 63, 3), FULL);
        refused("one too many by remove", x, z -> z.remove(11, 62), FULL);
        y = x.again(ChangeRows::begin, z -> z.put(11, 63, 3));
        refused("one too many by end", y, z -> z.end(), FULL);
        due("none by put", x.put(11, 62, 3), 0);
        due("none by remove", x.remove(11, 63), 0);
        due("told", x.told(), 0);
        due("none by end", x.again(ChangeRows::begin, z -> z.put(11, 63, 3), z -> z.remove(11, 63)).end(), 0);
        due("logged", x.logged(), LOG);
        due("forget", x.forget(), LOG);
        due("then there is room", x.put(0, 7, -1), 11);
    }

    private static void baseWhenLogWasEmptyLast() {
        about("BASE of a TABLE are its ROWS when THE LOG was empty last");
        Used x = withSource();
        x.fold(0, 1, 1);
        x.put(0, 5, 50);
        x.put(0, 6, 60);
        due("as at first", x.copy(0, 0), 0);
        due("of what follows", x.copy(1, 0), 0);
        x.forget();
        due("as the log was emptied", x.copy(0, 0), 2);
        rows("as the log was emptied", x, -1, 5, 50, 6, 60);
        due("a call that changes nothing", x.put(0, 5, 50), 0);
        x.put(0, 5, 51);
        x.remove(0, 6);
        due("it stays", x.copy(0, 0), 2);
        rows("it stays", x, -1, 5, 50, 6, 60);
        due("of what follows", x.copy(1, 0), 1);
        rows("of what follows", x, -1, 0, 110);
        x.begin();
        x.put(0, 7, 70);
        due("emptied in a batch", x.forget(), 4);
        x.end();
        due("then", x.copy(0, 0), 1);
        rows("then", x, -1, 5, 51);
        due("a refusal leaves it", x.put(0, 64, 1), BAD);
        due("then again", x.copy(1, 0), 1);
        rows("then again", x, -1, 0, 51);
    }

    private static void baseWhenMade() {
        about("or when it was made, if that is later");
        Used x = withSource(5, 50);
        x.map(0, 1, 1);
        x.put(0, 5, 52);
        x.map(0, 1, 2);
        x.source();
        x.put(0, 5, 53);
        due("logged", x.logged(), 6);
        due("made with one logged", x.copy(1, 0), 1);
        rows("made with one logged", x, -1, 5, 51);
        due("made with three logged", x.copy(2, 0), 1);
        rows("made with three logged", x, -1, 5, 54);
        due("the same up to its own first change", x.copy(2, 5), 1);
        rows("the same up to its own first change", x, -1, 5, 54);
        due("behind it", x.copy(2, 6), 1);
        rows("behind it", x, -1, 5, 55);
        due("a source", x.copy(3, 6), 0);
        due("net before its own changes", x.net(2, 0, 5), 0);
        due("net of all", x.net(2, 0, 6), 1);
        changes(x, 2, one(2, 1, 5, 54, 55));
        x.forget();
        due("emptied later", x.copy(2, 0), 1);
        rows("emptied later", x, -1, 5, 55);
        x.clear();
        x.source();
        due("of a new table of that number", x.copy(0, 0), 0);
    }

    private static void batchOf40() {
        about("A BATCH gathers up to 40 puts and removes");
        Used x = withAllSorts();
        x.begin();
        for (int i = 1; i < BATCH; i++) {
            due("put or remove " + i, i % 2 == 0 ? x.put(0, i, i) : x.remove(1, i), i);
        }
        due("the last one is a put", x.again().put(1, 0, 7), BATCH);
        due("the last one is a remove", x.remove(1, 63), BATCH);
        refused("a put too many", x, y -> y.put(0, 0, 1), FULL);
        refused("a put too many of a key it has", x, y -> y.put(0, 2, 1), FULL);
        refused("a remove too many", x, y -> y.remove(0, 0), FULL);
        due("gathered", x.count(1), BATCH);
        due("drop", x.again().drop(), BATCH);
        x.end();
        for (int i = 1; i < BATCH; i++) {
            due("at " + i, x.at(i % 2 == 0 ? 0 : 1, i), i % 2 == 0 ? i : 0);
        }
        due("the last one counts", x.has(1, 63), 0);
        x.begin();
        due("a new batch begins with none", x.put(0, 0, 1), 1);
        x = withSource();
        x.begin();
        for (int i = 1; i <= BATCH; i++) {
            due("those of one key count each, too", x.put(0, 0, i), i);
        }
        refused("one too many of one key", x, y -> y.put(0, 0, 1), FULL);
        due("end", x.end(), 1);
        due("the last one of it", x.at(0, 0), 40);
    }

    private static void batchInTheirOrder() {
        about("what they change is changed at its end, together, in their order (a later one of a KEY counts)");
        Used x = withSource(1, 10, 2, 20);
        x.source();
        x.join(0, 1, 0);
        x.begin();
        x.put(0, 1, 11);
        x.remove(0, 1);
        x.remove(0, 2);
        x.put(0, 2, 21);
        x.put(1, 2, 5);
        x.put(0, 3, 30);
        x.put(1, 3, 1);
        x.put(1, 1, 6);
        x.remove(1, 3);
        due("end", x.end(), 6);
        rows("t", x, 0, 2, 21, 3, 30);
        rows("u", x, 1, 1, 6, 2, 5);
        rows("both", x, 2, 2, 26);
    }

    private static void batchUntilThen() {
        about("Until then all is as it was");
        for (Used x : new Used[] {withAllSorts(), withFullLog(), withTwelve()}) {
            Used y = inBatch(x);
            due("gathered", y.again().count(1), 3);
            for (int t = -1; t < x.again().count(0); t++) {
                for (int key = 0; key < KEYS; key++) {
                    due("at(" + t + ", " + key + ")", y.again().at(t, key), x.again().at(t, key));
                    due("has(" + t + ", " + key + ")", y.again().has(t, key), x.again().has(t, key));
                }
            }
            due("told", y.again().told(), x.again().told());
            due("logged", y.again().logged(), x.again().logged());
            alike("a batch that is dropped", x, y.again(ChangeRows::drop));
            alike("a batch without any", x.again(z -> z.remove(0, 50)), x.again(ChangeRows::begin, ChangeRows::end));
        }
    }

    private static void netOneForAKey() {
        about("NET: the CHANGES of a TABLE, one for a KEY at most");
        Used x = withSource();
        x.put(0, 5, 1);
        x.put(0, 5, 2);
        x.put(0, 5, 1);
        x.remove(0, 5);
        x.put(0, 5, 1);
        x.put(0, 5, 3);
        long[][] nets = {{0, 1, 0, 0, 1}, {0, 2, 0, 0, 2}, {1, 2, 1, 1, 2}, {2, 4, 2, 2, 0}, {1, 4, 2, 1, 0},
            {2, 5, 1, 2, 1}, {1, 6, 1, 1, 3}, {0, 6, 0, 0, 3}, {4, 6, 0, 0, 3}, {3, 4, 2, 1, 0}};
        for (long[] net : nets) {
            due("net " + net[0] + " to " + net[1], x.net(0, (int) net[0], (int) net[1]), 1);
            changes(x, 2, one(0, net[2], 5, net[3], net[4]));
        }
        long[][] none = {{0, 0}, {6, 6}, {3, 3}, {1, 3}, {1, 5}, {3, 5}, {0, 4}, {4, 4}};
        for (long[] net : none) {
            due("net " + net[0] + " to " + net[1], x.net(0, (int) net[0], (int) net[1]), 0);
            changes(x, 2);
        }
    }

    private static void netByKeys() {
        about("NET: by KEYS");
        Used x = withSource();
        x.source();
        for (int i = 0; i < KEYS; i++) {
            x.put(0, KEYS - 1 - i, i);
            x.put(1, i, 100 + i);
        }
        due("one for each key", x.net(0, 0, 2 * KEYS), KEYS);
        for (int key = 0; key < KEYS; key++) {
            isChange(x, 2, key, 0, 0, key, 0, KEYS - 1 - key);
        }
        due("none behind them", x.change(2, KEYS, 0), BAD);
        due("of the other table", x.net(1, 1, 4), 2);
        changes(x, 2, one(1, 0, 0, 0, 100), one(1, 0, 1, 0, 101));
    }

    private static void netFromBaseOn() {
        about("NET: from its ROWS behind the first from CHANGES to those behind the first to ones (from BASE on)");
        Used x = withSource(1, 10, 2, 20);
        x.forget();
        due("an empty log", x.net(0, 0, 0), 0);
        x.put(0, 1, 11);
        x.map(0, 1, 0);
        x.remove(0, 2);
        due("all", x.net(0, 0, 3), 2);
        changes(x, 2, one(0, 1, 1, 10, 11), one(0, 2, 2, 20, 0));
        due("between the two of a call, the first", x.net(0, 1, 2), 1);
        changes(x, 2, one(0, 2, 2, 20, 0));
        due("between the two of a call, the second", x.net(1, 0, 2), 0);
        due("behind it", x.net(1, 2, 3), 1);
        changes(x, 2, one(1, 2, 2, 20, 0));
        due("from its end", x.net(1, 3, 3), 0);
    }

    private static Used withCopy() {
        Used x = withSource(0, 0, 63, 5);
        x.copy(0, 2);
        return x;
    }

    private static void copyBreaksFirst() {
        about("THE COPY: 1 a COME of a KEY that is there");
        Used x = withCopy();
        refused("a row of value 0, the same", x, y -> y.take(0, 0, 0, 0), 1);
        refused("a row of value 0", x, y -> y.take(0, 0, 0, 1), 1);
        refused("the last key", x, y -> y.take(0, 63, 5, 6), 1);
        due("of one that is not there", x.take(0, 62, 0, 5), 0);
        rows("then", x, -1, 0, 0, 62, 5, 63, 5);
        refused("then it is there", x, y -> y.take(0, 62, 0, 5), 1);
    }

    private static void copyBreaksSecond() {
        about("THE COPY: 2 an OTHER or GONE of one that is not there");
        Used x = withCopy();
        refused("an OTHER from 0", x, y -> y.take(1, 1, 0, 1), 2);
        refused("an OTHER to 0", x, y -> y.take(1, 62, 1, 0), 2);
        refused("a GONE of 0", x, y -> y.take(2, 1, 0, 0), 2);
        refused("a GONE", x, y -> y.take(2, 62, 5, 0), 2);
        due("an OTHER of one that is there", x.again().take(1, 0, 0, 1), 0);
        due("a GONE of one that is there", x.take(2, 0, 0, 1), 0);
        rows("then", x, -1, 63, 5);
        refused("a GONE again", x, y -> y.take(2, 0, 0, 1), 2);
    }

    private static void copyBreaksThird() {
        about("THE COPY: 3 one whose old VALUE is another one than there");
        Used x = withCopy();
        for (long old : new long[] {4, 6, 0, -5, 5 + (1L << 32), MIN, MAX}) {
            refused("an OTHER from " + old, x, y -> y.take(1, 63, old, 5), 3);
            refused("a GONE of " + old, x, y -> y.take(2, 63, old, 5), 3);
        }
        refused("an OTHER from 1, there is 0", x, y -> y.take(1, 0, 1, 1), 3);
        refused("a GONE of -1, there is 0", x, y -> y.take(2, 0, -1, 0), 3);
        due("a COME has no old value", x.take(0, 7, 99, 1), 0);
        due("an OTHER of that value", x.take(1, 63, 5, 6), 0);
        due("a GONE of that value", x.take(2, 63, 6, 99), 0);
        rows("then", x, -1, 0, 0, 7, 1);
    }

    private static void badFirst() {
        about("BAD (a number is none, or out of its bounds) first");
        Used x = inBatch(withAllTables(withAllSorts()));
        refused("NO and FULL, too: source", x, y -> y.source(), NO);
        refused("NO and FULL, too: filter", x, y -> y.filter(0, 1, 0), BAD);
        refused("NO and FULL, too: map", x, y -> y.map(0, 0, 1001), BAD);
        refused("NO and FULL, too: fold", x, y -> y.fold(0, 0, 65), BAD);
        refused("NO and FULL, too: join", x, y -> y.join(0, 0, 2), BAD);
        refused("NO and FULL, too: merge", x, y -> y.merge(0, 12), BAD);
        refused("NO and FULL, too: best", x, y -> y.best(0, 0), BAD);
        refused("NO and FULL, too: look", x, y -> y.look(12, 0), BAD);
        x = withFullBatch(withAllSorts());
        refused("FULL, too: put", x, y -> y.put(0, 64, 1), BAD);
        refused("FULL, too: put of no source", x, y -> y.put(2, 0, 1), BAD);
        refused("FULL, too: remove", x, y -> y.remove(0, -1), BAD);
        refused("FULL, too: remove of no source", x, y -> y.remove(2, 0), BAD);
        x = withFullLog();
        refused("FULL, too: put", x, y -> y.put(12, 7, -1), BAD);
        refused("FULL, too: remove", x, y -> y.remove(1, 7), BAD);
    }

    private static void inTheOrderNamed() {
        about("then what a call names, in the order named");
        Used x = withAllTables(withAllSorts());
        Used y = inBatch(x);
        for (Maker maker : MAKERS) {
            Used made = y.again();
            due("NO before FULL", maker.make(made), NO);
            alike("NO before FULL", y, made);
            made = x.again();
            due("FULL where there is no NO", maker.make(made), FULL);
            alike("FULL where there is no NO", x, made);
        }
    }
}
