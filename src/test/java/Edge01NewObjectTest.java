/** The edges of promise 1. */
public final class Edge01NewObjectTest {
    public static void main(String[] args) {
        noClasses();
        emptyHeaps();
        nothingWritten();
        nothingCollected();
        limitTen();
        refusedCalls();
        calls512();
        Check.end();
    }

    /** "No classes" */
    private static void noClasses() {
        Scribe scribe = new Scribe();
        Check.due("count(0)", scribe.count(0), 0);
        Check.due("make(0)", scribe.make(0), GraphScribe.BAD);
        Check.due("count(5)", scribe.count(5), 0);
    }

    /** "empty heaps" */
    private static void emptyHeaps() {
        Scribe scribe = new Scribe();
        Check.due("count(1)", scribe.count(1), 0);
        Check.due("count(2)", scribe.count(2), 0);
        Check.due("kind(0, 0)", scribe.kind(0, 0), GraphScribe.BAD);
        Check.due("kind(1, 0)", scribe.kind(1, 0), GraphScribe.BAD);
    }

    /** "nothing written" */
    private static void nothingWritten() {
        Scribe scribe = new Scribe();
        Check.due("count(3)", scribe.count(3), 0);
        Check.due("sign(0)", scribe.sign(0), GraphScribe.BAD);
        Check.due("take()", scribe.take(), 0);
    }

    private static void nothingCollected() {
        Scribe scribe = new Scribe();
        Check.due("count(4)", scribe.count(4), 0);
        Check.due("classes() of nothing", scribe.classes(), -1);
    }

    /** "LIMIT 10" */
    private static void limitTen() {
        Check.due("limit(1)", new Scribe().limit(1), 10);
        Check check = Check.of("a(r:r)");
        for (int i = 0; i <= 10; i++) {
            check.scribe.make(0);
            check.scribe.set(i, 0, i - 1);
        }
        Check.due("ten objects, one within the other", check.scribe.write(9, 3) > 0, true);
        Check.due("eleven", check.scribe.write(10, 3), GraphScribe.TOO_DEEP);
    }

    /** Whatever a new object refuses leaves it new. */
    private static void refusedCalls() {
        Edge.unchanged("make(0)", new Check(), GraphScribe.BAD, s -> s.make(0));
        Edge.unchanged("set(0, 0, 0)", new Check(), 0, s -> Edge.is(s.set(0, 0, 0)));
        Edge.unchanged("text(0, 0)", new Check(), 0, s -> Edge.is(s.text(0, 0)));
        Edge.unchanged("add(0, 0, 0)", new Check(), GraphScribe.BAD, s -> s.add(0, 0, 0));
        Edge.unchanged("write(0, 0)", new Check(), GraphScribe.BAD, s -> s.write(0, 0));
        Edge.unchanged("take()", new Check(), 0, Scribe::take);
        Edge.unchanged("forbid(0, true)", new Check(), 0, s -> Edge.is(s.forbid(0, true)));
        Edge.unchanged("same(0)", new Check(), 0, s -> Edge.is(s.same(0)));
        Edge.unchanged("value(0, 0, 0, 0)", new Check(), 0, s -> s.value(0, 0, 0, 0));
        Edge.unchanged("value(1, 0, 0, 0)", new Check(), 0, s -> s.value(1, 0, 0, 0));
        Edge.unchanged("classes()", new Check(), -1, Scribe::classes);
    }

    /** "An object is used for at most 512 calls": the last of them is answered as the first. */
    private static void calls512() {
        Check check = Edge.ofLength(0);
        int rounds = 0;
        while (check.scribe.left() >= 4) {
            Check.due("write", check.scribe.write(0, 3), 3000);
            Check.due("take", check.scribe.take(), 3000);
            Check.due("read", check.scribe.read(), 24);
            Check.due("same", check.scribe.same(0), false);
            rounds++;
        }
        Check.due("many rounds", rounds > 90, true);
        roundsWithManyValues();
    }

    /** Each reading has 60 attributes and 30 texts, and none of those before is in the way of the last. */
    private static void roundsWithManyValues() {
        Check check = Check.of("a(k:l*,m:i@,u:t@,s:t)");
        for (int i = 0; i < 30; i++) {
            check.scribe.make(0);
            check.scribe.set(i, 1, 100 + i);
        }
        for (int i = 1; i < 30; i++) {
            check.scribe.add((i - 1) / 8, 0, i);
        }
        check.putText(29, 2, "'last'");
        check.putText(29, 3, "<last>");
        while (check.scribe.left() >= 4) {
            int mode = check.scribe.left() % 3;
            Check.due("write", check.scribe.write(0, mode) > 0, true);
            check.scribe.take();
            Check.due("read", check.scribe.read(), 30);
            Check.due("same", check.scribe.same(0), true);
        }
    }
}
