/** Promise 8: another LIMIT, from 1 to 20. */
public final class P08LimitTest {
    public static void main(String[] args) {
        Scribe scribe = new Scribe();
        Check.due("limit(20)", scribe.limit(20), 10);
        Check.due("limit(1)", scribe.limit(1), 20);
        int[] wrong = {0, -1, 21, Integer.MIN_VALUE, Integer.MAX_VALUE};
        for (int most : wrong) {
            Check.due("limit(" + most + ")", scribe.limit(most), GraphScribe.BAD);
        }
        Check.due("limit(1) behind wrong ones", scribe.limit(1), 1);
        for (int most = 2; most <= 20; most++) {
            Check.due("limit(" + most + ")", scribe.limit(most), most - 1);
        }
        depths();
        Check.end();
    }

    /** A chain is written if it has at most as many objects as LIMIT. */
    private static void depths() {
        Check check = Check.of("a(r:r)");
        for (int i = 0; i < 22; i++) {
            check.scribe.make(0);
            check.scribe.set(i, 0, i - 1);
        }
        for (int most = 1; most <= 20; most++) {
            check.scribe.limit(most);
            Check.due("a chain as long as LIMIT " + most, check.scribe.write(most - 1, 0) > 0, true);
            Check.due("a longer chain than LIMIT " + most, check.scribe.write(most, 0), GraphScribe.TOO_DEEP);
        }
    }
}
