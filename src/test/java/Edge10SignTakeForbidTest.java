/** The edges of promises 10, 11 and 12. */
public final class Edge10SignTakeForbidTest {
    private static final int MIN = Integer.MIN_VALUE;
    private static final int MAX = Integer.MAX_VALUE;

    public static void main(String[] args) {
        firstAndLastSign();
        noSuchSign();
        signsBehindRefusedWrite();
        takeOfNothing();
        takeInPlaceOfWhatWas();
        takeOfMost();
        takeBehindRefusedWrite();
        forbidOfNone();
        forbidAndAllow();
        forbidEach();
        forbiddenToBeRead();
        Check.end();
    }

    /** sign: "Sign i of what was written." */
    private static void firstAndLastSign() {
        Check check = Edge.full();
        Check.due("write(2, 0)", check.scribe.write(2, 0), 4);
        Check.due("the first", check.scribe.sign(0), '<');
        Check.due("the last", check.scribe.sign(3), '>');
    }

    /** sign: "BAD: none such." */
    private static void noSuchSign() {
        Check check = Edge.full();
        int length = check.scribe.count(3);
        int[] none = {-1, -2, length, length + 1, 2999, 3000, MIN, MAX};
        for (int i : none) {
            Edge.refused("sign(" + i + ")", GraphScribe.BAD, s -> s.sign(i));
        }
        Edge.unchanged("nothing was written", Check.of("a()"), GraphScribe.BAD, s -> s.sign(0));
        check.scribe.write(2, 0);
        Check.due("behind the last of a shorter text", check.scribe.sign(4), GraphScribe.BAD);
    }

    /** write: "What was written before stays then.": all its signs, and no more. */
    private static void signsBehindRefusedWrite() {
        Check check = Edge.full();
        check.scribe.write(2, 0);
        check.scribe.limit(1);
        Check.due("too deep", check.scribe.write(0, 0), GraphScribe.TOO_DEEP);
        Check.due("what was written", check.written(), "<c/>");
        Check.due("behind it", check.scribe.sign(4), GraphScribe.BAD);
    }

    /** take: "in the place of what was": also where nothing was written. */
    private static void takeOfNothing() {
        Check check = Check.of("a(s:t)");
        check.scribe.make(0);
        check.collect("rest");
        Check.due("take()", check.scribe.take(), 0);
        Check.due("count(4)", check.scribe.count(4), 0);
        Check.due("text of it", check.scribe.text(0, 0), true);
        Check.due("no signs", check.textOf(0, 0, 0), "");
    }

    /** take: "What was written is collected, in the place of what was. How many signs." */
    private static void takeInPlaceOfWhatWas() {
        Check check = Edge.fullAndCollected();
        check.scribe.write(2, 0);
        Check.due("take()", check.scribe.take(), 4);
        Check.due("count(4)", check.scribe.count(4), 4);
        Edge.unchanged("take() again", check, 4, Scribe::take);
        Check.due("what was written stays", check.written(), "<c/>");
        check.collect("!");
        Check.due("what was written stays", check.written(), "<c/>");
        Check.due("text of it", check.scribe.text(0, 1), true);
        Check.due("text of it", check.textOf(0, 0, 1), "<c/>!");
        check.collect("12345678901234567890");
        Check.due("take() in the place of more", check.scribe.take(), 4);
        Check.due("text of it", check.scribe.text(0, 1), true);
        Check.due("text of it", check.textOf(0, 0, 1), "<c/>");
    }

    /** take: of 3,000 signs */
    private static void takeOfMost() {
        Check check = Edge.ofLength(0);
        check.scribe.write(0, 3);
        check.collect("rest");
        Check.due("take()", check.scribe.take(), 3000);
        Check.due("count(4)", check.scribe.count(4), 3000);
        Check.due("read()", check.scribe.read(), 24);
        Check.due("the last text", check.textOf(1, 23, 0), "\"".repeat(19) + "&");
        check.scribe.write(2, 0);
        Check.due("take() of fewer", check.scribe.take(), "<b s=\"\"/>".length() + 19 * 6 + 5);
    }

    /** A refused writing is not taken, nor a part of it. */
    private static void takeBehindRefusedWrite() {
        Check check = Edge.ofLength(1);
        Check.due("too long", check.scribe.write(0, 3), GraphScribe.TOO_LONG);
        Check.due("take()", check.scribe.take(), 0);
    }

    /** forbid: "False also: none such." */
    private static void forbidOfNone() {
        int[] none = {-1, 3, 5, 6, 7, MIN, MAX};
        for (int cls : none) {
            Edge.refused("forbid(" + cls + ", true)", 0, s -> Edge.is(s.forbid(cls, true)));
            Edge.refused("forbid(" + cls + ", false)", 0, s -> Edge.is(s.forbid(cls, false)));
        }
        Check check = Check.of("a()");
        Check.due("forbid(1, true)", check.scribe.forbid(1, true), false);
        Check.due("more classes", check.tellClasses("a();b()"), 2);
        Check.due("forbid(1, false)", check.scribe.forbid(1, false), false);
    }

    /** forbid: "A class is forbidden to be read (or not): whether it was." */
    private static void forbidAndAllow() {
        Edge.refused("forbid(2, true) of one that is", 1, s -> Edge.is(s.forbid(2, true)));
        Edge.refused("forbid(0, false) of one that is not", 0, s -> Edge.is(s.forbid(0, false)));
        Check check = Edge.full();
        Check.due("forbid(2, false)", check.scribe.forbid(2, false), true);
        Check.due("count(5)", check.scribe.count(5), 0);
        Check.due("forbid(2, true)", check.scribe.forbid(2, true), false);
        Check.due("count(5)", check.scribe.count(5), 1);
    }

    /** The first class and the sixth, all of them and none. */
    private static void forbidEach() {
        Check check = Check.of("a();b();c();d();e();f()");
        for (int cls = 0; cls < 6; cls++) {
            Check.due("forbid(" + cls + ", true)", check.scribe.forbid(cls, true), false);
            Check.due("count(5)", check.scribe.count(5), cls + 1);
        }
        Check.due("the sixth", check.readText("<f/>"), -10001);
        for (int cls = 5; cls >= 0; cls--) {
            Check.due("forbid(" + cls + ", false)", check.scribe.forbid(cls, false), true);
            Check.due("count(5)", check.scribe.count(5), cls);
        }
        Check.due("the sixth", check.readText("<f/>"), 1);
    }

    /** "forbidden to be read": not to be made, written or told, and what was read stays. */
    private static void forbiddenToBeRead() {
        Check check = Edge.full();
        Check.due("make of a forbidden class", check.scribe.make(2), 3);
        Check.due("write of it", check.write(3, 0), "<c/>");
        State before = new State(check.scribe);
        check.scribe.forbid(1, true);
        State now = new State(check.scribe);
        Check.due("what was read", now.read, before.read);
        Check.due("the heap", now.heap, before.heap);
        Check.due("what was written", now.written, before.written);
        Check.due("the classes", now.classes, before.classes);
        Check.due("same(1)", check.scribe.same(1), false);
    }
}
