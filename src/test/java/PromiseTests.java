/** For each promise of the document: ordinary calls and what follows from them. */
public final class PromiseTests extends Checks {
    public static void main(String[] args) {
        newObject();
        clear();
        source();
        filter();
        map();
        fold();
        join();
        merge();
        best();
        look();
        put();
        remove();
        begin();
        end();
        drop();
        told();
        change();
        value();
        logged();
        forget();
        net();
        copy();
        take();
        same();
        has();
        at();
        of();
        count();
        finish("all promises hold");
    }

    private static void newObject() {
        about("promise 1");
        isEmpty(new Used());
        due("NONE", ChangeRows.NONE, NONE);
        due("BAD", ChangeRows.BAD, BAD);
        due("FULL", ChangeRows.FULL, FULL);
        due("NO", ChangeRows.NO, NO);
    }

    private static void clear() {
        about("promise 2");
        due("clear of nothing", new Used().clear(), 0);
        Used x = withSource(3, 30, 4, 40);
        x.filter(0, 0, 100);
        x.copy(0, 2);
        x.net(0, 0, 2);
        x.begin();
        x.put(0, 5, 50);
        due("clear", x.clear(), 2);
        isEmpty(x);
        due("clear again", x.clear(), 0);
        x.source();
        rows("a source made after it", x, 0);
        due("net of it", x.net(0, 0, 0), 0);
        due("copy of it", x.copy(0, 0), 0);
        due("same", x.same(0), 1);
        due("put", x.put(0, 3, 1), 1);
        isChange(x, 0, 0, 0, 0, 3, 0, 1);
    }

    private static void source() {
        about("promise 3");
        Used x = new Used();
        for (int t = 0; t < TABLES; t++) {
            due("source", x.source(), t);
            rows("source", x, t);
            due("sort", x.of(t, 0), 0);
        }
        due("count(0)", x.count(0), TABLES);
    }

    private static void filter() {
        about("promise 4");
        Used x = withSource(0, -1, 1, 0, 2, 5, 3, 6, 63, 3);
        due("filter", x.filter(0, 0, 5), 1);
        rows("low .. high", x, 1, 1, 0, 2, 5, 63, 3);
        due("nothing told of it", x.logged(), 5);
        due("one value", x.filter(0, 6, 6), 2);
        rows("one value", x, 2, 3, 6);
        due("all", x.filter(0, MIN, MAX), 3);
        due("rows of all", x.of(3, 3), 5);
        due("put out of it", x.put(0, 2, 7), 3);
        isChange(x, 0, 1, 1, 2, 2, 5, 0);
        due("put into it", x.put(0, 0, 4), 3);
        isChange(x, 0, 1, 1, 0, 0, 0, 4);
    }

    private static void map() {
        about("promise 5");
        Used x = withSource(0, 3, 9, -4, 10, MAX);
        due("map", x.map(0, -2, 7), 1);
        rows("map", x, 1, 0, 1, 9, 15, 10, 9);
        due("least", x.map(0, -1000, -1000), 2);
        rows("least", x, 2, 0, -4000, 9, 3000, 10, 0);
        due("greatest", x.map(0, 1000, 1000), 3);
        rows("greatest", x, 3, 0, 4000, 9, -3000, 10, 0);
        due("a = 0", x.map(0, 0, 5), 4);
        due("put with a = 0 apart", x.put(0, 0, 4), 4);
    }

    private static void fold() {
        about("promise 6");
        Used x = withSource(1, 5, 4, -2, 7, 9, 63, 0, 2, 8);
        for (int kind = 0; kind < 5; kind++) {
            due("fold", x.fold(0, kind, 3), kind + 1);
        }
        rows("how many", x, 1, 0, 1, 1, 3, 2, 1);
        rows("sum", x, 2, 0, 0, 1, 12, 2, 8);
        rows("least", x, 3, 0, 0, 1, -2, 2, 8);
        rows("greatest", x, 4, 0, 0, 1, 9, 2, 8);
        rows("greatest key", x, 5, 0, 63, 1, 7, 2, 2);
        due("one group", x.fold(0, 1, 1), 6);
        rows("one group", x, 6, 0, 20);
        due("each key a group", x.fold(0, 4, 64), 7);
        rows("each key a group", x, 7, 1, 1, 2, 2, 4, 4, 7, 7, 63, 63);
        due("a group goes", x.remove(0, 2), 8);
        rows("how many then", x, 1, 0, 1, 1, 3);
        due("two folds of five stay", x.put(0, 0, MAX), 6);
        x.put(0, 3, 1);
        due("a sum wraps", x.at(2, 0), MIN);
        x.clear();
        x.source();
        x.put(0, 0, -3);
        x.put(0, 1, -2);
        x.fold(0, 2, 1);
        x.fold(0, 3, 1);
        rows("least of negative ones", x, 1, 0, -3);
        rows("greatest of negative ones", x, 2, 0, -2);
    }

    private static void join() {
        about("promise 7");
        Used x = withSource(1, 10, 2, 20, 3, MAX);
        x.source();
        x.put(1, 2, 5);
        x.put(1, 3, 1);
        x.put(1, 4, 7);
        due("join", x.join(0, 1, 0), 2);
        rows("both", x, 2, 2, 25, 3, MIN);
        due("join", x.join(0, 1, 1), 3);
        rows("t alone too", x, 3, 1, 10, 2, 25, 3, MIN);
        due("one table", x.join(0, 0, 0), 4);
        rows("one table", x, 4, 1, 20, 2, 40, 3, -2);
        due("u comes", x.put(1, 1, 0), 2);
        rows("both then", x, 2, 1, 10, 2, 25, 3, MIN);
        x.put(0, 0, 1);
        x.put(0, 63, 2);
        x.put(1, 0, 3);
        x.put(1, 63, 4);
        rows("first and last key", x, 2, 0, 4, 1, 10, 2, 25, 3, MIN, 63, 6);
    }

    private static void merge() {
        about("promise 8");
        Used x = withSource(1, 10, 2, 0);
        x.source();
        x.put(1, 2, 5);
        x.put(1, 3, 6);
        due("merge", x.merge(0, 1), 2);
        rows("merge", x, 2, 1, 10, 2, 0, 3, 6);
        due("one table", x.merge(1, 1), 3);
        rows("one table", x, 3, 2, 5, 3, 6);
        due("t's row goes, u's is seen", x.remove(0, 2), 2);
        isChange(x, 0, 1, 2, 1, 2, 0, 5);
        x.put(0, 0, 1);
        x.put(1, 63, 2);
        rows("first and last key", x, 2, 0, 1, 1, 10, 2, 5, 3, 6, 63, 2);
    }

    private static void best() {
        about("promise 9");
        Used x = withSource(0, 4, 1, 9, 2, 4, 3, -1, 63, 9);
        due("best", x.best(0, 3), 1);
        rows("of several the lesser key", x, 1, 0, 4, 1, 9, 63, 9);
        due("best", x.best(0, 1), 2);
        rows("one", x, 2, 1, 9);
        due("best", x.best(0, 64), 3);
        rows("all", x, 3, 0, 4, 1, 9, 2, 4, 3, -1, 63, 9);
        due("one falls behind", x.put(0, 0, 3), 4);
        isChange(x, 0, 1, 1, 2, 0, 4, 0);
        isChange(x, 0, 2, 1, 0, 2, 0, 4);
        x = withSource(5, -7);
        x.best(0, 10);
        rows("fewer than n", x, 1, 5, -7);
        x.put(0, 6, 3);
        x.remove(0, 5);
        rows("fewer than n again", x, 1, 6, 3);
        x.clear();
        x.source();
        x.best(0, 63);
        for (int key = 0; key < 64; key++) {
            x.put(0, key, MIN + key);
        }
        due("all but one", x.of(1, 3), 63);
        due("the least one is left out", x.has(1, 0), 0);
    }

    private static void look() {
        about("promise 10");
        Used x = withSource(0, 5, 1, 64, 2, -1, 3, 6, 4, 69);
        x.source();
        x.put(1, 0, 100);
        x.put(1, 5, 105);
        x.put(1, 63, 0);
        due("look", x.look(0, 1), 2);
        rows("look", x, 2, 0, 105, 1, 100, 2, 0, 4, 105);
        due("one table", x.look(0, 0), 3);
        rows("one table", x, 3, 1, 5);
        due("u changes", x.put(1, 5, 1), 3);
        isChange(x, 0, 1, 2, 1, 0, 105, 1);
        isChange(x, 0, 2, 2, 1, 4, 105, 1);
        due("u goes", x.remove(1, 5), 3);
        rows("look then", x, 2, 1, 100, 2, 0);
    }

    private static void put() {
        about("promise 11");
        Used x = withSource();
        x.map(0, 2, 0);
        due("comes", x.put(0, 63, 5), 2);
        rows("comes", x, 0, 63, 5);
        isChange(x, 0, 0, 0, 0, 63, 0, 5);
        isChange(x, 0, 1, 1, 0, 63, 0, 10);
        due("other", x.put(0, 63, 6), 2);
        isChange(x, 0, 0, 0, 1, 63, 5, 6);
        due("the same", x.put(0, 63, 6), 0);
        due("0 comes", x.put(0, 0, 0), 2);
        rows("0 comes", x, 0, 0, 0, 63, 6);
        isChange(x, 0, 0, 0, 0, 0, 0, 0);
        x.begin();
        due("gathered", x.put(0, 1, 1), 1);
        due("gathered again", x.put(0, 1, 2), 2);
    }

    private static void remove() {
        about("promise 12");
        Used x = withSource(63, 5, 0, 0);
        x.map(0, 2, 0);
        due("goes", x.remove(0, 63), 2);
        rows("goes", x, 0, 0, 0);
        isChange(x, 0, 0, 0, 2, 63, 5, 0);
        isChange(x, 0, 1, 1, 2, 63, 10, 0);
        due("there is none", x.remove(0, 63), 0);
        due("0 goes", x.remove(0, 0), 2);
        rows("0 goes", x, 0);
        x.begin();
        due("gathered", x.remove(0, 63), 1);
        due("gathered again", x.remove(0, 1), 2);
    }

    private static void begin() {
        about("promise 13");
        Used x = withSource(1, 10);
        due("begin", x.begin(), 1);
        due("gathered", x.count(1), 0);
        x.put(0, 1, 11);
        due("there is one", x.begin(), NO);
        due("gathered still", x.count(1), 1);
        x.end();
        due("begin after end", x.begin(), 1);
        due("gathered then", x.count(1), 0);
        x.drop();
        due("begin after drop", x.begin(), 1);
    }

    private static void end() {
        about("promise 14");
        Used x = withSource(1, 10, 2, 20);
        x.source();
        x.join(0, 1, 0);
        x.forget();
        x.begin();
        x.put(1, 2, 3);
        x.put(0, 5, 50);
        x.put(0, 1, 11);
        x.remove(0, 5);
        x.put(0, 1, 12);
        x.remove(0, 2);
        x.put(0, 2, 22);
        rows("as it was", x, 0, 1, 10, 2, 20);
        rows("as it was", x, 2);
        due("logged as it was", x.logged(), 0);
        due("end", x.end(), 4);
        isChange(x, 0, 0, 0, 1, 1, 10, 12);
        isChange(x, 0, 1, 0, 1, 2, 20, 22);
        isChange(x, 0, 2, 1, 0, 2, 0, 3);
        isChange(x, 0, 3, 2, 0, 2, 0, 25);
        rows("then", x, 0, 1, 12, 2, 22);
        due("no batch", x.count(1), NONE);
        x.begin();
        x.put(0, 1, 0);
        x.put(0, 1, 12);
        due("nothing on the whole", x.end(), 0);
        due("told", x.told(), 0);
        endOfManyChanges();
    }

    /** Forty gathered changes of a source change twelve tables at forty keys each. */
    private static void endOfManyChanges() {
        Used x = withTwelve();
        x.begin();
        for (int i = 0; i < BATCH; i++) {
            x.put(0, 63 - i, i);
        }
        due("many", x.end(), BATCH * TABLES);
        due("told", x.told(), BATCH * TABLES);
        due("logged", x.logged(), BATCH * TABLES);
        for (int i = 0; i < BATCH * TABLES; i++) {
            int t = i / BATCH;
            int key = 64 - BATCH + i % BATCH;
            isChange(x, 0, i, t, 0, key, 0, 63 - key + t);
            isChange(x, 1, i, t, 0, key, 0, 63 - key + t);
        }
    }

    private static void drop() {
        about("promise 15");
        Used x = withSource(1, 10);
        due("there is none", x.drop(), NO);
        x.begin();
        due("nothing gathered", x.drop(), 0);
        x.begin();
        x.put(0, 1, 11);
        x.remove(0, 1);
        due("drop", x.drop(), 2);
        rows("nothing changes", x, 0, 1, 10);
        due("logged", x.logged(), 1);
        due("told", x.told(), 1);
        due("no batch", x.count(1), NONE);
        x.put(0, 2, 20);
        rows("what was gathered is gone", x, 0, 1, 10, 2, 20);
    }

    private static void told() {
        about("promise 16");
        Used x = withSource();
        x.map(0, 1, 0);
        x.put(0, 0, 1);
        due("by put", x.told(), 2);
        x.put(0, 64, 1);
        due("after a refusal", x.told(), 2);
        x.filter(0, 0, 1);
        due("after a table", x.told(), 2);
        x.forget();
        due("after forget", x.told(), 2);
        isChange(x, 0, 0, 0, 0, 0, 0, 1);
        isChange(x, 0, 1, 1, 0, 0, 0, 1);
        x.begin();
        x.put(0, 1, 1);
        due("by put in a batch", x.told(), 2);
        x.remove(0, 0);
        due("by remove in a batch", x.told(), 2);
        x.put(0, 2, 1);
        x.end();
        due("by end", x.told(), 9);
        x.remove(0, 1);
        due("by remove", x.told(), 3);
        x.remove(0, 1);
        due("by remove of none", x.told(), 0);
    }

    private static void change() {
        about("promise 17");
        Used x = withSource(9, 1);
        x.map(0, 1, 1);
        x.put(0, 9, 2);
        x.remove(0, 9);
        changes(x, 0, one(0, 2, 9, 2, 0), one(1, 2, 9, 3, 0));
        changes(x, 1, one(0, 0, 9, 0, 1), one(0, 1, 9, 1, 2), one(1, 1, 9, 2, 3), one(0, 2, 9, 2, 0),
            one(1, 2, 9, 3, 0));
        due("net", x.net(1, 0, 5), 1);
        changes(x, 2, one(1, 2, 9, 2, 0));
    }

    private static void value() {
        about("promise 18");
        Used x = withSource(9, MIN, 9, MAX);
        x.remove(0, 9);
        due("old of a row that came", x.value(1, 0, 0), 0);
        due("new of it", x.value(1, 0, 1), MIN);
        due("old of another value", x.value(1, 1, 0), MIN);
        due("new of it", x.value(1, 1, 1), MAX);
        due("old of a row that is gone", x.value(1, 2, 0), MAX);
        due("new of it", x.value(1, 2, 1), 0);
    }

    private static void logged() {
        about("promise 19");
        Used x = withSource();
        due("at first", x.logged(), 0);
        x.put(0, 0, 1);
        x.map(0, 1, 0);
        due("a table is not logged", x.logged(), 1);
        x.put(0, 0, 2);
        due("two more", x.logged(), 3);
        x.put(0, 0, 2);
        due("none more", x.logged(), 3);
    }

    private static void forget() {
        about("promise 20");
        Used x = withSource(1, 10, 2, 20);
        x.remove(0, 1);
        due("forget", x.forget(), 3);
        due("logged", x.logged(), 0);
        due("forget again", x.forget(), 0);
        due("change", x.change(1, 0, 0), BAD);
        rows("rows stay", x, 0, 2, 20);
        due("copy of base", x.copy(0, 0), 1);
        rows("base", x, -1, 2, 20);
        x.put(0, 2, 21);
        x.put(0, 3, 30);
        due("copy of base", x.copy(0, 0), 1);
        rows("base", x, -1, 2, 20);
        due("net from base on", x.net(0, 0, 2), 2);
        isChange(x, 2, 0, 0, 1, 2, 20, 21);
    }

    private static void net() {
        about("promise 21");
        Used x = withSource();
        x.source();
        x.put(0, 5, 1);
        x.put(1, 6, 9);
        x.put(0, 3, 2);
        x.put(0, 5, 4);
        x.remove(0, 3);
        x.put(0, 5, 1);
        due("all", x.net(0, 0, 6), 1);
        isChange(x, 2, 0, 0, 0, 5, 0, 1);
        due("by keys", x.net(0, 0, 4), 2);
        isChange(x, 2, 0, 0, 0, 3, 0, 2);
        isChange(x, 2, 1, 0, 0, 5, 0, 4);
        due("of the other table", x.net(1, 0, 6), 1);
        isChange(x, 2, 0, 1, 0, 6, 0, 9);
        due("none of the other table", x.net(1, 2, 6), 0);
        due("there and back", x.net(0, 2, 6), 0);
        due("gone and other", x.net(0, 3, 5), 2);
        isChange(x, 2, 0, 0, 2, 3, 2, 0);
        isChange(x, 2, 1, 0, 1, 5, 1, 4);
        due("one place", x.net(0, 3, 3), 0);
        due("the end", x.net(0, 6, 6), 0);

        x = withSource(5, 1);
        x.map(0, 1, 1);
        x.put(0, 5, 2);
        due("a table made later, before it was made", x.net(1, 0, 1), 0);
        due("a table made later", x.net(1, 0, 3), 1);
        isChange(x, 2, 0, 1, 1, 5, 2, 3);
        due("between a call's changes", x.net(1, 0, 2), 0);
        due("a row of value 0", x.put(0, 6, 0), 2);
        due("net of it", x.net(0, 3, 5), 1);
        isChange(x, 2, 0, 0, 0, 6, 0, 0);
    }

    private static void copy() {
        about("promise 22");
        Used x = withSource(5, 1, 3, 2);
        x.map(0, 10, 0);
        x.remove(0, 5);
        due("at first", x.copy(0, 0), 0);
        rows("at first", x, -1);
        due("behind 2", x.copy(0, 2), 2);
        rows("behind 2", x, -1, 5, 1, 3, 2);
        due("behind all", x.copy(0, 4), 1);
        rows("behind all", x, -1, 3, 2);
        due("a table made later", x.copy(1, 0), 2);
        rows("a table made later", x, -1, 5, 10, 3, 20);
        due("before its own change", x.copy(1, 3), 2);
        due("behind its own change", x.copy(1, 4), 1);
        rows("behind its own change", x, -1, 3, 20);
        x.put(0, 3, 7);
        rows("it does not follow", x, -1, 3, 20);
    }

    private static void take() {
        about("promise 23");
        Used x = new Used();
        due("come", x.take(0, 63, 99, 5), 0);
        rows("come", x, -1, 63, 5);
        due("come again", x.take(0, 63, 0, 6), 1);
        due("come again, the same", x.take(0, 63, 0, 5), 1);
        due("other of none", x.take(1, 62, 0, 6), 2);
        due("gone of none", x.take(2, 62, 0, 6), 2);
        due("other of another old", x.take(1, 63, 6, 7), 3);
        due("gone of another old", x.take(2, 63, 6, 0), 3);
        rows("none was taken", x, -1, 63, 5);
        due("other", x.take(1, 63, 5, 7), 0);
        rows("other", x, -1, 63, 7);
        due("gone", x.take(2, 63, 7, 99), 0);
        rows("gone", x, -1);
        due("come of 0", x.take(0, 0, 1, 0), 0);
        rows("come of 0", x, -1, 0, 0);
    }

    private static void same() {
        about("promise 24");
        Used x = withSource();
        due("both empty", x.same(0), 1);
        x.put(0, 4, 0);
        due("a row of value 0 more", x.same(0), 0);
        x.take(0, 4, 0, 0);
        due("equal", x.same(0), 1);
        x.put(0, 4, 1);
        due("another value", x.same(0), 0);
        x.take(1, 4, 0, 1);
        due("equal again", x.same(0), 1);
        x.take(0, 63, 0, 0);
        due("the copy has more", x.same(0), 0);
        x.begin();
        x.put(0, 63, 0);
        due("in a batch as it was", x.same(0), 0);
        x.end();
        due("behind the batch", x.same(0), 1);
    }

    private static void has() {
        about("promise 25");
        Used x = withSource(0, 0, 63, 1);
        x.take(0, 5, 0, 0);
        due("first key", x.has(0, 0), 1);
        due("last key", x.has(0, 63), 1);
        due("none", x.has(0, 5), 0);
        due("copy", x.has(-1, 5), 1);
        due("none of the copy", x.has(-1, 0), 0);
    }

    private static void at() {
        about("promise 26");
        Used x = withSource(0, 7, 63, -1);
        x.take(0, 5, 0, 8);
        due("first key", x.at(0, 0), 7);
        due("last key", x.at(0, 63), -1);
        due("none", x.at(0, 5), 0);
        due("copy", x.at(-1, 5), 8);
        due("none of the copy", x.at(-1, 0), 0);
        x.remove(0, 0);
        due("gone", x.at(0, 0), 0);
    }

    private static void of() {
        about("promise 27");
        Used x = withSource(3, 1, 4, 2);
        x.source();
        x.filter(1, 0, 1);
        x.map(2, 1, 1);
        x.fold(3, 0, 1);
        x.join(4, 0, 0);
        x.merge(0, 5);
        x.best(6, 1);
        x.look(7, 1);
        int[][] want = {{0, NONE, NONE, 2}, {0, NONE, NONE, 0}, {1, 1, NONE, 0}, {2, 2, NONE, 0}, {3, 3, NONE, 0},
            {4, 4, 0, 0}, {5, 0, 5, 2}, {6, 6, NONE, 1}, {7, 7, 1, 0}};
        for (int t = 0; t < want.length; t++) {
            for (int what = 0; what < 4; what++) {
                due("of(" + t + ", " + what + ")", x.of(t, what), want[t][what]);
            }
        }
    }

    private static void count() {
        about("promise 28");
        Used x = withSource(3, 1);
        x.map(0, 1, 1);
        due("tables", x.count(0), 2);
        due("no batch", x.count(1), NONE);
        x.begin();
        due("empty batch", x.count(1), 0);
        x.put(0, 3, 2);
        x.put(0, 3, 3);
        due("batch", x.count(1), 2);
        x.end();
        due("no batch again", x.count(1), NONE);
        due("empty copy", x.count(2), 0);
        x.copy(1, 1);
        x.take(0, 63, 0, 0);
        due("copy", x.count(2), 2);
    }
}
