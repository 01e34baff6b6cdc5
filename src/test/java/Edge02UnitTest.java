/** The edges of promise 2. */
public final class Edge02UnitTest {
    public static void main(String[] args) {
        firstAndLastSigns();
        anotherOne();
        noRoom();
        lastPlace();
        Check.end();
    }

    /** "A sign (32 .. 126, 9, 10, 13) is collected" */
    private static void firstAndLastSigns() {
        int[] signs = {32, 33, 125, 126, 9, 10, 13};
        for (int u : signs) {
            Check check = Edge.full();
            check.collect("<a><n>4</n>");
            Check.due("unit(" + u + ")", check.scribe.unit(u), true);
            Check.due("count(4) behind unit(" + u + ")", check.scribe.count(4), 12);
            check.collect("</a>");
            boolean blank = u <= 32;
            Check.due("read() behind unit(" + u + ")", check.scribe.read(), blank ? 1 : GraphScribe.MEANING);
        }
    }

    /** "False: another one" */
    private static void anotherOne() {
        int[] others = {31, 127, 8, 11, 12, 14, 0, -1, 128, 160, 255, 256 + 'a', 65536 + 'a', 'a' - 65536,
            Integer.MIN_VALUE, Integer.MIN_VALUE + 'a', Integer.MAX_VALUE};
        for (int u : others) {
            Edge.refused("unit(" + u + ")", 0, s -> Edge.is(s.unit(u)));
        }
    }

    /** "at most 3,000. False: .. no room." */
    private static void noRoom() {
        Check check = Edge.ofLength(0);
        check.scribe.write(0, 3);
        Check.due("take()", check.scribe.take(), 3000);
        Edge.unchanged("the 3,001st sign", check, 0, s -> Edge.is(s.unit(' ')));
        Edge.unchanged("another one where there is no room", check, 0, s -> Edge.is(s.unit(31)));
        Check.due("read() of the 3,000 signs", check.scribe.read(), 24);
        Check.due("there is room again", check.scribe.unit(' '), true);
        Check.due("count(4)", check.scribe.count(4), 1);
    }

    /** "at most 3,000": the 3,000th has room. */
    private static void lastPlace() {
        Check check = Edge.ofLength(-1);
        check.scribe.write(0, 3);
        Check.due("take()", check.scribe.take(), 2999);
        Check.due("the 3,000th sign", check.scribe.unit('x'), true);
        Check.due("count(4)", check.scribe.count(4), 3000);
        Edge.unchanged("the 3,001st sign", check, 0, s -> Edge.is(s.unit(' ')));
        Check.due("read() of the 3,000 signs", check.scribe.read(), -1 - 2999);
    }
}
