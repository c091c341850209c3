/** Two objects that are asked the same, each with new ones in its place once it has had all its calls. */
final class Twins {
    private final Used first;
    private final Used second;
    private final Used.Call[] before;
    private Used a;
    private Used b;

    /** Before they are asked, these calls are made of both. */
    Twins(Used first, Used second, Used.Call... before) {
        this.first = first;
        this.second = second;
        this.before = before;
        renew();
    }

    private void renew() {
        a = first.again(before);
        b = second.again(before);
    }

    /** For calls that change nothing. */
    private long ask(String name, Used.Call call) {
        if (a.left() == 0 || b.left() == 0) {
            renew();
        }
        long answer = a.call(call);
        Checks.due(name, b.call(call), answer);
        return answer;
    }

    /** Asks for all that can be seen without a change. */
    void compare(String what) {
        int tables = (int) ask(what + ": count(0)", x -> x.count(0));
        ask(what + ": count(1)", x -> x.count(1));
        compareRows(what, -1);
        for (int t = 0; t < tables; t++) {
            compareTable(what, t);
        }
        compareList(what, 0, (int) ask(what + ": told()", ChangeRows::told));
        compareList(what, 1, (int) ask(what + ": logged()", ChangeRows::logged));
        compareList(what, 2, Checks.KEYS);
    }

    private void compareTable(String what, int t) {
        for (int i = 0; i < 4; i++) {
            int asked = i;
            ask(what + ": of(" + t + ", " + i + ")", x -> x.of(t, asked));
        }
        ask(what + ": same(" + t + ")", x -> x.same(t));
        compareRows(what, t);
    }

    private void compareRows(String what, int t) {
        ask(what + ": count(2)", x -> x.count(2));
        for (int i = 0; i < Checks.KEYS; i++) {
            int key = i;
            ask(what + ": has(" + t + ", " + key + ")", x -> x.has(t, key));
            ask(what + ": at(" + t + ", " + key + ")", x -> x.at(t, key));
        }
    }

    private void compareList(String what, int where, int size) {
        boolean more = true;
        for (int i = 0; i < size && more; i++) {
            int at = i;
            String change = what + ": change " + i + " of " + where;
            more = ask(change, x -> x.change(where, at, 0)) != Checks.BAD;
            ask(change + ", its sort", x -> x.change(where, at, 1));
            ask(change + ", its key", x -> x.change(where, at, 2));
            ask(change + ", old", x -> x.value(where, at, 0));
            ask(change + ", new", x -> x.value(where, at, 1));
        }
    }

    /** Compares BASE of all tables, by copies of it. */
    static void compareBases(String what, Used first, Used second) {
        int tables = first.again().count(0);
        for (int i = 0; i < tables; i++) {
            int t = i;
            new Twins(first, second, x -> x.copy(t, 0)).compareRows(what + ", BASE of " + t, -1);
        }
    }
}
