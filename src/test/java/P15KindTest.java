/** Promise 15: the class of an object of the heap or the read heap. */
public final class P15KindTest {
    public static void main(String[] args) {
        Check check = Check.of("a(l:l);b(r:r);c()");
        Scribe scribe = check.scribe;
        scribe.make(2);
        scribe.make(0);
        scribe.make(1);
        check.readText("<b><r class='a'><l><c/><b/></l></r></b>");
        int[] made = {2, 0, 1};
        int[] read = {1, 0, 2, 1};
        for (int i = 0; i < made.length; i++) {
            Check.due("kind(0, " + i + ")", scribe.kind(0, i), made[i]);
        }
        for (int i = 0; i < read.length; i++) {
            Check.due("kind(1, " + i + ")", scribe.kind(1, i), read[i]);
        }
        int[][] wrong = {{0, 3}, {1, 4}, {0, -1}, {1, -1}, {2, 0}, {-1, 0}, {0, 30}, {1, 30},
            {Integer.MIN_VALUE, 0}, {Integer.MAX_VALUE, 0}, {0, Integer.MIN_VALUE}, {1, Integer.MAX_VALUE}};
        for (int[] w : wrong) {
            Check.due("kind(" + w[0] + ", " + w[1] + ")", scribe.kind(w[0], w[1]), GraphScribe.BAD);
        }
        Check.end();
    }
}
