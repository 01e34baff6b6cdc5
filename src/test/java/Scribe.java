import java.util.ArrayList;
import java.util.List;
import java.util.function.Consumer;

/**
 * A GraphScribe that remembers its calls. An object is used for at most 512, so no test may ask for more; and a twin,
 * made by the same calls, can be asked for what would change this one.
 */
final class Scribe {
    private static final int MOST_CALLS = 512;

    private final GraphScribe scribe = new GraphScribe();
    private final List<Consumer<GraphScribe>> calls = new ArrayList<>();

    private GraphScribe after(Consumer<GraphScribe> call) {
        calls.add(call);
        if (calls.size() == MOST_CALLS + 1) {
            Check.due("a test's calls of one object", calls.size(), MOST_CALLS);
        }
        return scribe;
    }

    /** How many calls are left. */
    int left() {
        return MOST_CALLS - calls.size();
    }

    /** Another object with the same calls behind it. */
    Scribe twin() {
        Scribe twin = new Scribe();
        for (Consumer<GraphScribe> call : calls) {
            twin.calls.add(call);
            call.accept(twin.scribe);
        }
        return twin;
    }

    boolean unit(int u) {
        return after(s -> s.unit(u)).unit(u);
    }

    int classes() {
        return after(GraphScribe::classes).classes();
    }

    int make(int cls) {
        return after(s -> s.make(cls)).make(cls);
    }

    boolean set(int object, int field, int v) {
        return after(s -> s.set(object, field, v)).set(object, field, v);
    }

    boolean text(int object, int field) {
        return after(s -> s.text(object, field)).text(object, field);
    }

    int add(int object, int field, int target) {
        return after(s -> s.add(object, field, target)).add(object, field, target);
    }

    int limit(int most) {
        return after(s -> s.limit(most)).limit(most);
    }

    int write(int root, int mode) {
        return after(s -> s.write(root, mode)).write(root, mode);
    }

    int sign(int i) {
        return after(s -> s.sign(i)).sign(i);
    }

    int take() {
        return after(GraphScribe::take).take();
    }

    boolean forbid(int cls, boolean is) {
        return after(s -> s.forbid(cls, is)).forbid(cls, is);
    }

    int read() {
        return after(GraphScribe::read).read();
    }

    boolean same(int root) {
        return after(s -> s.same(root)).same(root);
    }

    int kind(int heap, int object) {
        return after(s -> s.kind(heap, object)).kind(heap, object);
    }

    int value(int heap, int object, int field, int i) {
        return after(s -> s.value(heap, object, field, i)).value(heap, object, field, i);
    }

    int count(int what) {
        return after(s -> s.count(what)).count(what);
    }
}
