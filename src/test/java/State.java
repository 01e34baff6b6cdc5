import java.util.ArrayList;
import java.util.List;

/** All that calls can show of a scribe. Twins are asked, so that this scribe stays as it is. */
final class State {
    private static final int MOST_CLASSES = 6;
    private static final int MOST_FIELDS = 4;

    final String collected;
    final String written;
    final String read;
    final String heap;
    final String classes;
    final String limit;
    final String forbidding;

    State(Scribe scribe) {
        collected = collected(scribe);
        written = written(scribe);
        read = heap(scribe, 1);
        heap = heap(scribe, 0);
        classes = classes(scribe);
        limit = "LIMIT " + scribe.twin().limit(1);
        forbidding = forbidding(scribe);
    }

    /** Everything is as it was before. */
    void dueNow(String what, Scribe scribe) {
        State now = new State(scribe);
        dueButCollected(what, now);
        Check.due(what + ": what was collected", now.collected, collected);
    }

    /** Everything is as it was before, but what was collected is gone. */
    void dueNowWithoutCollected(String what, Scribe scribe) {
        State now = new State(scribe);
        dueButCollected(what, now);
        Check.due(what + ": signs collected", scribe.twin().count(4), 0);
    }

    private void dueButCollected(String what, State now) {
        Check.due(what + ": what was written", now.written, written);
        Check.due(what + ": what was read", now.read, read);
        Check.due(what + ": the heap", now.heap, heap);
        Check.due(what + ": the classes", now.classes, classes);
        Check.due(what + ": LIMIT", now.limit, limit);
        Check.due(what + ": forbidding", now.forbidding, forbidding);
    }

    /** The signs that were written; a twin that has no calls left is followed by another. */
    static String written(Scribe scribe) {
        StringBuilder signs = new StringBuilder();
        int length = scribe.twin().count(3);
        while (signs.length() < length && scribe.left() > 0) {
            Scribe twin = scribe.twin();
            while (signs.length() < length && twin.left() > 0) {
                signs.append((char) twin.sign(signs.length()));
            }
        }
        return signs.toString();
    }

    /** The signs of a text in a field. */
    static String text(Scribe scribe, int heap, int object, int field) {
        StringBuilder signs = new StringBuilder();
        for (int v : cells(scribe, heap, object, field)) {
            signs.append((char) v);
        }
        return signs.toString();
    }

    /** The objects of a list, or the signs of a text. */
    static List<Integer> cells(Scribe scribe, int heap, int object, int field) {
        Scribe twin = scribe.twin();
        List<Integer> found = new ArrayList<>();
        int v = twin.value(heap, object, field, 0);
        while (v != GraphScribe.NONE && found.size() < 25) {
            found.add(v);
            v = twin.value(heap, object, field, found.size());
        }
        return found;
    }

    /** What was collected is shown by what it is as a text of a field, as classes and as a text to be read. */
    private static String collected(Scribe scribe) {
        Scribe told = scribe.twin();
        Scribe read = scribe.twin();
        return scribe.twin().count(4) + " signs, a text " + collectedText(scribe)
                + ", as classes " + told.classes() + " " + classes(told)
                + ", as XML " + read.read() + " " + heap(read, 1);
    }

    private static String collectedText(Scribe scribe) {
        int objects = scribe.twin().count(1);
        for (int object = 0; object < objects; object++) {
            for (int field = 0; field < MOST_FIELDS; field++) {
                Scribe twin = scribe.twin();
                if (twin.text(object, field)) {
                    return text(twin, 0, object, field);
                }
            }
        }
        return "of no field";
    }

    private static String heap(Scribe scribe, int heap) {
        Scribe twin = scribe.twin();
        int size = twin.count(heap + 1);
        StringBuilder shown = new StringBuilder(size + " objects:");
        for (int object = 0; object <= size; object++) {
            shown.append(" ").append(scribe.twin().kind(heap, object));
            for (int field = 0; field < MOST_FIELDS; field++) {
                List<Integer> cells = cells(scribe, heap, object, field);
                shown.append(cells.size() < 25 ? cells : "[" + cells.get(0) + " always]");
            }
        }
        return shown.toString();
    }

    /** The classes are shown by how their objects are written. */
    private static String classes(Scribe scribe) {
        StringBuilder shown = new StringBuilder(scribe.twin().count(0) + " classes:");
        for (int cls = 0; cls <= MOST_CLASSES; cls++) {
            Scribe twin = scribe.twin();
            int object = twin.make(cls);
            if (object == GraphScribe.BAD) {
                object = firstOf(twin.twin(), cls);
            }
            int answer = twin.write(object, 2);
            shown.append(" ").append(answer < 0 ? "" + answer : written(twin));
        }
        return shown.toString();
    }

    private static int firstOf(Scribe twin, int cls) {
        int size = twin.count(1);
        for (int object = 0; object < size; object++) {
            if (twin.kind(0, object) == cls) {
                return object;
            }
        }
        return size;
    }

    private static String forbidding(Scribe scribe) {
        Scribe twin = scribe.twin();
        StringBuilder shown = new StringBuilder(twin.count(5) + " forbidden:");
        for (int cls = -1; cls <= MOST_CLASSES; cls++) {
            shown.append(twin.forbid(cls, false) ? " " + cls : "");
        }
        return shown.toString();
    }
}
