/** Promise 4: make gives a new object of a class. */
public final class P04MakeTest {
    public static void main(String[] args) {
        Check check = Check.of("a(n:i,s:t,r:r,l:l);b(r:r)");
        Scribe scribe = check.scribe;
        Check.due("make(-1)", scribe.make(-1), GraphScribe.BAD);
        Check.due("make(2)", scribe.make(2), GraphScribe.BAD);
        Check.due("make(MIN)", scribe.make(Integer.MIN_VALUE), GraphScribe.BAD);
        Check.due("make(MAX)", scribe.make(Integer.MAX_VALUE), GraphScribe.BAD);
        Check.due("count(1)", scribe.count(1), 0);
        for (int i = 0; i < 30; i++) {
            Check.due("make of object " + i, scribe.make(i % 2), i);
            Check.due("kind of object " + i, scribe.kind(0, i), i % 2);
        }
        Check.due("the 31st object", scribe.make(0), GraphScribe.BAD);
        Check.due("count(1)", scribe.count(1), 30);
        Check.due("a number at first", scribe.value(0, 28, 0, 0), 0);
        Check.due("a text at first", scribe.value(0, 28, 1, 0), GraphScribe.NONE);
        Check.due("a reference at first", scribe.value(0, 28, 2, 0), GraphScribe.NONE);
        Check.due("a list at first", scribe.value(0, 28, 3, 0), GraphScribe.NONE);
        Check.due("a reference at first", scribe.value(0, 29, 0, 0), GraphScribe.NONE);
        madeAgain();
        Check.end();
    }

    /** New classes use the room of the old ones again: nothing of these may be left in the objects. */
    private static void madeAgain() {
        Check check = Check.of("a(n:i,s:t,r:r,l:l)");
        check.scribe.make(0);
        check.scribe.set(0, 0, 77);
        check.putText(0, 1, "rest");
        check.scribe.set(0, 2, 0);
        check.scribe.add(0, 3, 0);
        check.tellClasses("a(s:t,r:r,l:l,n:i)");
        Check.due("make(0)", check.scribe.make(0), 0);
        Check.due("text of the new object", check.scribe.value(0, 0, 0, 0), GraphScribe.NONE);
        Check.due("reference of the new object", check.scribe.value(0, 0, 1, 0), GraphScribe.NONE);
        Check.due("list of the new object", check.scribe.value(0, 0, 2, 0), GraphScribe.NONE);
        Check.due("number of the new object", check.scribe.value(0, 0, 3, 0), 0);
    }
}
