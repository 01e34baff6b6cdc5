/** Promise 17: how many there are. */
public final class P17CountTest {
    public static void main(String[] args) {
        Check check = Check.of("a(l:l);b();c()");
        counts("classes", check, 3, 0, 0, 0, 0, 0);
        check.scribe.make(0);
        check.scribe.make(1);
        check.scribe.add(0, 0, 1);
        counts("make", check, 3, 2, 0, 0, 0, 0);
        check.readText("<a><l><a/><b/><b/></l></a>");
        counts("read", check, 3, 2, 4, 0, 0, 0);
        check.scribe.write(0, 0);
        counts("write", check, 3, 2, 4, 18, 0, 0);
        check.scribe.forbid(0, true);
        check.scribe.forbid(2, true);
        counts("forbid", check, 3, 2, 4, 18, 0, 2);
        check.collect("abcde");
        counts("unit", check, 3, 2, 4, 18, 5, 2);
        check.scribe.take();
        counts("take", check, 3, 2, 4, 18, 18, 2);
        check.scribe.read();
        counts("a wrong read", check, 3, 2, 4, 18, 0, 2);
        check.readText("<b/>");
        counts("another read", check, 3, 2, 1, 18, 0, 2);
        int[] wrong = {-1, 6, 7, Integer.MIN_VALUE, Integer.MAX_VALUE};
        for (int what : wrong) {
            Check.due("count(" + what + ")", check.scribe.count(what), GraphScribe.BAD);
        }
        Check.end();
    }

    private static void counts(String behind, Check check, int... want) {
        for (int what = 0; what < want.length; what++) {
            Check.due("count(" + what + ") behind " + behind, check.scribe.count(what), want[what]);
        }
    }
}
