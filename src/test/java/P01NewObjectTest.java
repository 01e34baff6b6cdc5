/** Promise 1: a new object has no classes, empty heaps, nothing written and LIMIT 10. */
public final class P01NewObjectTest {
    public static void main(String[] args) {
        Scribe scribe = new Scribe();
        for (int what = 0; what <= 5; what++) {
            Check.due("count(" + what + ") of a new object", scribe.count(what), 0);
        }
        Check.due("make(0)", scribe.make(0), GraphScribe.BAD);
        Check.due("sign(0)", scribe.sign(0), GraphScribe.BAD);
        Check.due("write(0, 0)", scribe.write(0, 0), GraphScribe.BAD);
        Check.due("take()", scribe.take(), 0);
        Check.due("read()", scribe.read(), -3001);
        Check.due("same(0)", scribe.same(0), false);
        Check.due("set(0, 0, 0)", scribe.set(0, 0, 0), false);
        Check.due("text(0, 0)", scribe.text(0, 0), false);
        Check.due("add(0, 0, 0)", scribe.add(0, 0, 0), GraphScribe.BAD);
        Check.due("forbid(0, true)", scribe.forbid(0, true), false);
        Check.due("count(5) behind forbid", scribe.count(5), 0);
        Check.due("kind(0, 0)", scribe.kind(0, 0), GraphScribe.BAD);
        Check.due("kind(1, 0)", scribe.kind(1, 0), GraphScribe.BAD);
        Check.due("value(0, 0, 0, 0)", scribe.value(0, 0, 0, 0), 0);
        Check.due("value(1, 0, 0, 0)", scribe.value(1, 0, 0, 0), 0);
        Check.due("classes()", scribe.classes(), -1);
        Check.due("limit(10)", scribe.limit(10), 10);
        objectsAreApart();
        Check.end();
    }

    private static void objectsAreApart() {
        Check one = Check.of("a(x:i)");
        Check two = Check.of("b();c()");
        one.scribe.make(0);
        one.scribe.limit(3);
        one.collect("zz");
        Check.due("count(0) of the other object", two.scribe.count(0), 2);
        Check.due("count(1) of the other object", two.scribe.count(1), 0);
        Check.due("count(4) of the other object", two.scribe.count(4), 0);
        Check.due("limit(4) of the other object", two.scribe.limit(4), 10);
    }
}
