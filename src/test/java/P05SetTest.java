/** Promise 5: set puts numbers and references. */
public final class P05SetTest {
    public static void main(String[] args) {
        numbers();
        references();
        wrongOnes();
        Check.end();
    }

    private static void numbers() {
        Scribe scribe = Check.of("a(n:i,m:i@,s:t,l:l)").scribe;
        scribe.make(0);
        scribe.make(0);
        int[] numbers = {0, 1, -1, -2, 29, 30, 31, Integer.MAX_VALUE, Integer.MIN_VALUE};
        for (int v : numbers) {
            Check.due("set(0, 0, " + v + ")", scribe.set(0, 0, v), true);
            Check.due("number behind set(0, 0, " + v + ")", scribe.value(0, 0, 0, 0), v);
            Check.due("set(1, 1, " + v + ")", scribe.set(1, 1, v), true);
            Check.due("number behind set(1, 1, " + v + ")", scribe.value(0, 1, 1, 0), v);
        }
        Check.due("number of another field", scribe.value(0, 0, 1, 0), 0);
        Check.due("number of another object", scribe.value(0, 1, 0, 0), 0);
        Check.due("the same number again", scribe.set(0, 0, Integer.MIN_VALUE), true);
    }

    private static void references() {
        Scribe scribe = Check.of("a(r:r,q:r);b()").scribe;
        scribe.make(0);
        scribe.make(1);
        Check.due("set to itself", scribe.set(0, 0, 0), true);
        Check.due("reference", scribe.value(0, 0, 0, 0), 0);
        Check.due("set to another", scribe.set(0, 0, 1), true);
        Check.due("reference", scribe.value(0, 0, 0, 0), 1);
        Check.due("reference of another field", scribe.value(0, 0, 1, 0), GraphScribe.NONE);
        int[] wrong = {2, -1, -3, 30, Integer.MIN_VALUE, Integer.MAX_VALUE};
        for (int v : wrong) {
            Check.due("set(0, 0, " + v + ")", scribe.set(0, 0, v), false);
            Check.due("reference behind set(0, 0, " + v + ")", scribe.value(0, 0, 0, 0), 1);
        }
        Check.due("set to none", scribe.set(0, 0, GraphScribe.NONE), true);
        Check.due("reference", scribe.value(0, 0, 0, 0), GraphScribe.NONE);
    }

    private static void wrongOnes() {
        Scribe scribe = Check.of("a(n:i,s:t,l:l,t:t@);b()").scribe;
        scribe.make(0);
        scribe.make(1);
        int[] fields = {1, 2, 3, 4, -1, 5, Integer.MIN_VALUE, Integer.MAX_VALUE};
        for (int field : fields) {
            Check.due("set(0, " + field + ", 0)", scribe.set(0, field, 0), false);
            Check.due("set(0, " + field + ", NONE)", scribe.set(0, field, GraphScribe.NONE), false);
        }
        int[] objects = {1, 2, -1, 30, Integer.MIN_VALUE, Integer.MAX_VALUE};
        for (int object : objects) {
            Check.due("set(" + object + ", 0, 0)", scribe.set(object, 0, 0), false);
        }
        Check.due("text behind wrong sets", scribe.value(0, 0, 1, 0), GraphScribe.NONE);
        Check.due("list behind wrong sets", scribe.value(0, 0, 2, 0), GraphScribe.NONE);
    }
}
