/** Promise 2: unit collects signs 32 .. 126, 9, 10 and 13, at most 3,000. */
public final class P02UnitTest {
    public static void main(String[] args) {
        everySign();
        room();
        Check.end();
    }

    private static void everySign() {
        GraphScribe scribe = new GraphScribe();
        int collected = 0;
        for (int u = -300; u <= 300; u++) {
            boolean is = u >= 32 && u <= 126 || u == 9 || u == 10 || u == 13;
            Check.due("unit(" + u + ")", scribe.unit(u), is);
            collected += is ? 1 : 0;
            Check.due("count(4) behind unit(" + u + ")", scribe.count(4), collected);
        }
        int[] others = {Integer.MIN_VALUE, Integer.MAX_VALUE, 65536 + 65, 256 + 65, 65 - 65536};
        for (int u : others) {
            Check.due("unit(" + u + ")", scribe.unit(u), false);
        }
        Check.due("count(4)", scribe.count(4), collected);
    }

    private static void room() {
        GraphScribe scribe = new GraphScribe();
        for (int i = 0; i < 3000; i++) {
            Check.due("unit of sign " + i, scribe.unit('a'), true);
        }
        Check.due("unit of the 3001st sign", scribe.unit('a'), false);
        Check.due("unit(31) where there is no room", scribe.unit(31), false);
        Check.due("count(4)", scribe.count(4), 3000);
        Check.due("classes()", scribe.classes(), -9);
        Check.due("count(4)", scribe.count(4), 0);
        Check.due("unit behind classes()", scribe.unit('a'), true);
    }
}
