import java.util.ArrayList;
import java.util.List;

/** An object with all calls made of it, so that a like one can be made: of one object 512 calls alone are promised. */
final class Used {
    static final int CALLS = 512;

    interface Call {
        long on(ChangeRows x);
    }

    private final ChangeRows object = new ChangeRows();
    private final List<Call> calls = new ArrayList<>();

    long call(Call call) {
        if (left() == 0) {
            throw new IllegalStateException("a test makes more than 512 calls of one object");
        }
        calls.add(call);
        return call.on(object);
    }

    int left() {
        return CALLS - calls.size();
    }

    /** The calls that were made of another one are made of this one, too. */
    Used likewise(Used other) {
        for (Call call : other.calls) {
            call(call);
        }
        return this;
    }

    /** A new one after the same calls and these. */
    Used again(Call... more) {
        Used like = new Used().likewise(this);
        for (Call call : more) {
            like.call(call);
        }
        return like;
    }

    int clear() {
        return (int) call(ChangeRows::clear);
    }

    int source() {
        return (int) call(ChangeRows::source);
    }

    int filter(int t, long low, long high) {
        return (int) call(x -> x.filter(t, low, high));
    }

    int map(int t, int a, int b) {
        return (int) call(x -> x.map(t, a, b));
    }

    int fold(int t, int kind, int g) {
        return (int) call(x -> x.fold(t, kind, g));
    }

    int join(int t, int u, int kind) {
        return (int) call(x -> x.join(t, u, kind));
    }

    int merge(int t, int u) {
        return (int) call(x -> x.merge(t, u));
    }

    int best(int t, int n) {
        return (int) call(x -> x.best(t, n));
    }

    int look(int t, int u) {
        return (int) call(x -> x.look(t, u));
    }

    int put(int t, int key, long value) {
        return (int) call(x -> x.put(t, key, value));
    }

    int remove(int t, int key) {
        return (int) call(x -> x.remove(t, key));
    }

    int begin() {
        return (int) call(ChangeRows::begin);
    }

    int end() {
        return (int) call(ChangeRows::end);
    }

    int drop() {
        return (int) call(ChangeRows::drop);
    }

    int told() {
        return (int) call(ChangeRows::told);
    }

    int change(int where, int i, int what) {
        return (int) call(x -> x.change(where, i, what));
    }

    long value(int where, int i, int which) {
        return call(x -> x.value(where, i, which));
    }

    int logged() {
        return (int) call(ChangeRows::logged);
    }

    int forget() {
        return (int) call(ChangeRows::forget);
    }

    int net(int t, int from, int to) {
        return (int) call(x -> x.net(t, from, to));
    }

    int copy(int t, int n) {
        return (int) call(x -> x.copy(t, n));
    }

    int take(int sort, int key, long old, long now) {
        return (int) call(x -> x.take(sort, key, old, now));
    }

    int same(int t) {
        return (int) call(x -> x.same(t));
    }

    int has(int t, int key) {
        return (int) call(x -> x.has(t, key));
    }

    long at(int t, int key) {
        return call(x -> x.at(t, key));
    }

    int of(int t, int what) {
        return (int) call(x -> x.of(t, what));
    }

    int count(int what) {
        return (int) call(x -> x.count(what));
    }
}
