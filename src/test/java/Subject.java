import java.util.ArrayList;
import java.util.List;
import java.util.function.ToIntFunction;

/**
 * An object under test. What one answers after its 512th call is free, so when the calls of one are
 * used up, a new one takes its place, brought to the same state by the same changes.
 */
final class Subject {
    static final int MOST_CALLS = 512;

    private final List<ToIntFunction<SlicedModes>> changes = new ArrayList<>();
    private SlicedModes object = new SlicedModes();
    private int calls;

    int feed(int row, long v, int n) {
        return change(x -> x.feed(row, v, n));
    }

    int fill(int row, int n, int seed) {
        return change(x -> x.fill(row, n, seed));
    }

    int alter(int row, int i, int v) {
        return change(x -> x.alter(row, i, v));
    }

    int octet(int row, int i) {
        return ask(x -> x.octet(row, i));
    }

    int cut(int row, int n) {
        return change(x -> x.cut(row, n));
    }

    int tag(int m) {
        return change(x -> x.tag(m));
    }

    int seal(int kind) {
        return change(x -> x.seal(kind));
    }

    int open(int kind) {
        return change(x -> x.open(kind));
    }

    int sum(int kind) {
        return change(x -> x.sum(kind));
    }

    int out(int i) {
        return ask(x -> x.out(i));
    }

    int take(int row) {
        return change(x -> x.take(row));
    }

    int roundKey(int i) {
        return ask(x -> x.roundKey(i));
    }

    /** How many calls the object that stands now has had. */
    int calls() {
        return calls;
    }

    private int change(ToIntFunction<SlicedModes> call) {
        int answer = ask(call);
        changes.add(call);
        return answer;
    }

    private int ask(ToIntFunction<SlicedModes> call) {
        if (calls == MOST_CALLS) {
            renew();
        }
        calls++;
        return call.applyAsInt(object);
    }

    private void renew() {
        if (changes.size() >= MOST_CALLS) {
            throw new IllegalStateException("this test changes one object too often");
        }
        object = new SlicedModes();
        for (ToIntFunction<SlicedModes> call : changes) {
            call.applyAsInt(object);
        }
        calls = changes.size();
    }
}
