/** Promise 2: unit collects signs 32 .. 126, 9, 10 and 13, at most 3,000. */
public final class P02UnitTest {
    public static void main(String[] args) {
        everySign(-300, -151);
        everySign(-150, -1);
        everySign(0, 150);
        everySign(151, 300);
        otherNumbers();
        Check.end();
    }

    private static void everySign(int first, int last) {
        Scribe scribe = new Scribe();
        int collected = 0;
        for (int u = first; u <= last; u++) {
            boolean is = u >= 32 && u <= 126 || u == 9 || u == 10 || u == 13;
            Check.due("unit(" + u + ")", scribe.unit(u), is);
            collected += is ? 1 : 0;
            Check.due("count(4) behind unit(" + u + ")", scribe.count(4), collected);
        }
    }

    private static void otherNumbers() {
        Scribe scribe = new Scribe();
        int[] others = {Integer.MIN_VALUE, Integer.MAX_VALUE, 65536 + 65, 256 + 65, 65 - 65536};
        for (int u : others) {
            Check.due("unit(" + u + ")", scribe.unit(u), false);
        }
        Check.due("count(4)", scribe.count(4), 0);
    }
}
