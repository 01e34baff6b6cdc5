/** The edges of promises 15, 16 and 17. What they ask changes nothing. */
public final class Edge15AskTest {
    private static final int MIN = Integer.MIN_VALUE;
    private static final int MAX = Integer.MAX_VALUE;

    public static void main(String[] args) {
        kinds();
        noSuchKind();
        kindsOfEmptyHeaps();
        numbersAndReferences();
        signsAndObjects();
        behindTheLast();
        belowZero();
        noSuchHeap();
        noSuchObject();
        noSuchField();
        counts();
        countsAtMost();
        noSuchCount();
        Check.end();
    }

    /** kind: "Of an object of the heap (0) or the read heap (1): its class." */
    private static void kinds() {
        Edge.refused("kind(0, 0)", 0, s -> s.kind(0, 0));
        Edge.refused("kind(0, 2)", 2, s -> s.kind(0, 2));
        Edge.refused("kind(1, 0)", 1, s -> s.kind(1, 0));
        Edge.refused("kind(1, 1)", 0, s -> s.kind(1, 1));
    }

    /** kind: "BAD: none such." */
    private static void noSuchKind() {
        int[][] none = {{0, -1}, {0, 3}, {0, 30}, {0, MIN}, {0, MAX}, {1, -1}, {1, 2}, {1, 30}, {1, MIN}, {1, MAX},
            {-1, 0}, {2, 0}, {MIN, 0}, {MAX, 0}, {-1, -1}};
        for (int[] n : none) {
            Edge.refused("kind(" + n[0] + ", " + n[1] + ")", GraphScribe.BAD, s -> s.kind(n[0], n[1]));
        }
    }

    private static void kindsOfEmptyHeaps() {
        Edge.unchanged("kind(0, 0)", Check.of("a()"), GraphScribe.BAD, s -> s.kind(0, 0));
        Edge.unchanged("kind(1, 0)", Check.of("a()"), GraphScribe.BAD, s -> s.kind(1, 0));
        Check check = Check.of("a()");
        check.scribe.make(0);
        Check.due("kind(1, 0), nothing was read", check.scribe.kind(1, 0), GraphScribe.BAD);
        check.readText("<a/>");
        Check.due("kind(1, 0)", check.scribe.kind(1, 0), 0);
    }

    /** value: "a number itself; a reference, its object (NONE)": whatever i is */
    private static void numbersAndReferences() {
        int[] any = {0, 1, -1, 8, 20, MIN, MAX};
        for (int i : any) {
            Edge.refused("a number, i " + i, -5, s -> s.value(0, 0, 0, i));
            Edge.refused("a reference, i " + i, 1, s -> s.value(0, 0, 2, i));
            Edge.refused("a number that was read, i " + i, 3, s -> s.value(1, 0, 0, i));
            Edge.refused("a reference to none that was read, i " + i, GraphScribe.NONE, s -> s.value(1, 1, 2, i));
        }
    }

    /** value: "sign i of a text, object i of a list" */
    private static void signsAndObjects() {
        Edge.refused("the first sign", 'h', s -> s.value(0, 0, 1, 0));
        Edge.refused("the last sign", 'i', s -> s.value(0, 0, 1, 1));
        Edge.refused("the first object", 1, s -> s.value(0, 0, 3, 0));
        Edge.refused("the last object", 0, s -> s.value(0, 0, 3, 1));
        Edge.refused("the object of an implicit list that was read", 1, s -> s.value(1, 0, 2, 0));
        Check check = Check.of("a(s:t,l:l)");
        check.scribe.make(0);
        check.putText(0, 0, "abcdefghijklmnopqrst");
        for (int i = 0; i < 8; i++) {
            check.scribe.make(0);
            check.scribe.add(0, 1, i + 1);
        }
        Check.due("sign 19", check.scribe.value(0, 0, 0, 19), 't');
        Check.due("sign 20", check.scribe.value(0, 0, 0, 20), GraphScribe.NONE);
        Check.due("object 7", check.scribe.value(0, 0, 1, 7), 8);
        Check.due("object 8", check.scribe.value(0, 0, 1, 8), GraphScribe.NONE);
    }

    /** value: "(of both NONE behind the last" */
    private static void behindTheLast() {
        int[] behind = {2, 3, 7, 8, 19, 20, 21, MAX};
        for (int i : behind) {
            Edge.refused("sign " + i, GraphScribe.NONE, s -> s.value(0, 0, 1, i));
            Edge.refused("object " + i, GraphScribe.NONE, s -> s.value(0, 0, 3, i));
            Edge.refused("object " + i + " that was read", GraphScribe.NONE, s -> s.value(1, 0, 2, i));
        }
        Edge.refused("sign 0 of no text", GraphScribe.NONE, s -> s.value(0, 1, 1, 0));
        Edge.refused("sign 0 of no text that was read", GraphScribe.NONE, s -> s.value(1, 1, 1, 0));
        Edge.refused("object 0 of no list that was read", GraphScribe.NONE, s -> s.value(1, 1, 3, 0));
    }

    /** value: "and for i below 0)" */
    private static void belowZero() {
        int[] below = {-1, -2, -20, MIN};
        for (int i : below) {
            Edge.refused("sign " + i, GraphScribe.NONE, s -> s.value(0, 0, 1, i));
            Edge.refused("object " + i, GraphScribe.NONE, s -> s.value(0, 0, 3, i));
            Edge.refused("object " + i + " that was read", GraphScribe.NONE, s -> s.value(1, 0, 2, i));
        }
    }

    /** value: "0: none such heap" */
    private static void noSuchHeap() {
        int[] none = {-1, 2, 3, MIN, MAX};
        for (int heap : none) {
            Edge.refused("value(" + heap + ", 0, 0, 0)", 0, s -> s.value(heap, 0, 0, 0));
            Edge.refused("value(" + heap + ", 0, 3, 0)", 0, s -> s.value(heap, 0, 3, 0));
        }
    }

    /** value: "0: none such .. object" */
    private static void noSuchObject() {
        int[] none = {-1, -2, 3, 30, MIN, MAX};
        for (int object : none) {
            for (int field = 0; field < 4; field++) {
                int f = field;
                Edge.refused("value(0, " + object + ", " + f + ", 0)", 0, s -> s.value(0, object, f, 0));
                Edge.refused("value(1, " + object + ", " + f + ", 0)", 0, s -> s.value(1, object, f, 0));
            }
        }
        Edge.refused("value(1, 2, 0, 0)", 0, s -> s.value(1, 2, 0, 0));
    }

    /** value: "0: none such .. field" */
    private static void noSuchField() {
        int[] none = {-1, 4, 5, MIN, MAX};
        for (int field : none) {
            Edge.refused("value(0, 0, " + field + ", 0)", 0, s -> s.value(0, 0, field, 0));
            Edge.refused("value(1, 1, " + field + ", 0)", 0, s -> s.value(1, 1, field, 0));
        }
        Edge.refused("a fourth field of a class with three", 0, s -> s.value(0, 1, 3, 0));
        Edge.refused("a field of a class without", 0, s -> s.value(0, 2, 0, 0));
        Edge.refused("a fourth field of a class with three that was read", 0, s -> s.value(1, 0, 3, 0));
    }

    /** count: "0 classes, 1 objects, 2 objects of the read heap, 3 signs written, 4 signs collected, 5 forbidden classes." */
    private static void counts() {
        int length = Edge.full().written().length();
        int[] want = {3, 3, 2, length, 3, 1};
        for (int what = 0; what < want.length; what++) {
            int w = what;
            Edge.refused("count(" + what + ")", want[what], s -> s.count(w));
        }
    }

    /** Each count where it is greatest. */
    private static void countsAtMost() {
        Check check = Check.of("a(s:t@,l:l,m:l,n:l);b();c();d();e();f()");
        for (int i = 0; i < 30; i++) {
            check.scribe.make(0);
        }
        for (int cls = 0; cls < 6; cls++) {
            check.scribe.forbid(cls, true);
        }
        Check.due("classes", check.scribe.count(0), 6);
        Check.due("objects", check.scribe.count(1), 30);
        Check.due("forbidden classes", check.scribe.count(5), 6);
        Check full = Edge.ofLength(0);
        full.scribe.write(0, 3);
        full.scribe.take();
        Check.due("signs written", full.scribe.count(3), 3000);
        Check.due("signs collected", full.scribe.count(4), 3000);
        full.scribe.read();
        Check.due("objects of the read heap", full.scribe.count(2), 24);
        Check.due("signs collected, which are gone", full.scribe.count(4), 0);
        Check.due("signs written, which stay", full.scribe.count(3), 3000);
    }

    /** count: "BAD: another number." */
    private static void noSuchCount() {
        int[] none = {-1, -2, 6, 7, MIN, MAX};
        for (int what : none) {
            Edge.refused("count(" + what + ")", GraphScribe.BAD, s -> s.count(what));
            Edge.unchanged("count(" + what + ")", new Check(), GraphScribe.BAD, s -> s.count(what));
        }
    }
}
