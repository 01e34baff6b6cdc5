/** Promise 7: add puts an object behind the others of a list. */
public final class P07AddTest {
    public static void main(String[] args) {
        Scribe scribe = Check.of("a(n:i,s:t,r:r,l:l);b(m:l*)").scribe;
        scribe.make(0);
        scribe.make(1);
        scribe.make(1);
        int[] targets = {1, 0, 2, 1, 1, 2, 0, 0};
        for (int i = 0; i < 8; i++) {
            Check.due("add(0, 3, " + targets[i] + ")", scribe.add(0, 3, targets[i]), i + 1);
        }
        for (int i = 0; i < 8; i++) {
            Check.due("object " + i + " of the list", scribe.value(0, 0, 3, i), targets[i]);
        }
        Check.due("the ninth", scribe.add(0, 3, 1), GraphScribe.BAD);
        Check.due("behind the eighth", scribe.value(0, 0, 3, 8), GraphScribe.NONE);
        Check.due("implicit list", scribe.add(1, 0, 1), 1);
        Check.due("implicit list", scribe.value(0, 1, 0, 0), 1);
        Check.due("another object's list", scribe.value(0, 2, 0, 0), GraphScribe.NONE);
        int[][] wrong = {{0, 0, 0}, {0, 1, 0}, {0, 2, 0}, {0, 4, 0}, {0, -1, 0}, {3, 0, 0}, {-1, 0, 0}, {1, 1, 0},
            {1, 0, 3}, {1, 0, -1}, {1, 0, -2}, {1, 0, 30}, {Integer.MAX_VALUE, 0, 0}, {1, Integer.MAX_VALUE, 0},
            {1, 0, Integer.MAX_VALUE}, {Integer.MIN_VALUE, 0, 0}, {1, Integer.MIN_VALUE, 0}, {1, 0, Integer.MIN_VALUE}};
        for (int[] w : wrong) {
            Check.due("add(" + w[0] + ", " + w[1] + ", " + w[2] + ")", scribe.add(w[0], w[1], w[2]), GraphScribe.BAD);
        }
        Check.due("list behind wrong ones", scribe.add(1, 0, 2), 2);
        Check.due("number behind wrong ones", scribe.value(0, 0, 0, 0), 0);
        Check.due("reference behind wrong ones", scribe.value(0, 0, 2, 0), GraphScribe.NONE);
        Check.end();
    }
}
