/** The edges of promise 14. */
public final class Edge14SameTest {
    private static final int MIN = Integer.MIN_VALUE;
    private static final int MAX = Integer.MAX_VALUE;

    public static void main(String[] args) {
        noSuchRoot();
        nothingWasRead();
        behindRefusedReadings();
        onlyTheFirstThatWasRead();
        anotherRoot();
        classesOfObjects();
        numbers();
        texts();
        placesWithoutObject();
        lengths();
        oneObjectInBoth();
        oneObjectInOneAlone();
        twoObjectsForOne();
        circles();
        thirtyObjects();
        nothingChanges();
        Check.end();
    }

    /** "False also: none such" */
    private static void noSuchRoot() {
        int[] none = {-1, GraphScribe.NONE, 3, 29, 30, MIN, MAX};
        for (int root : none) {
            Edge.refused("same(" + root + ")", 0, s -> Edge.is(s.same(root)));
        }
    }

    /** "False also: .. nothing was read" */
    private static void nothingWasRead() {
        Check check = Check.of("a()");
        check.scribe.make(0);
        Edge.unchanged("same(0)", check, 0, s -> Edge.is(s.same(0)));
        check.readText("<a");
        Edge.unchanged("same(0) behind a wrong text", check, 0, s -> Edge.is(s.same(0)));
        check.readText("<q/>");
        Edge.unchanged("same(0) behind a text without meaning", check, 0, s -> Edge.is(s.same(0)));
        check.readText("<a/>");
        Edge.unchanged("same(0) behind a right one", check, 1, s -> Edge.is(s.same(0)));
        check.tellClasses("a()");
        check.scribe.make(0);
        Edge.unchanged("same(0) behind new classes", check, 0, s -> Edge.is(s.same(0)));
    }

    /** read: "what was read before stays then" */
    private static void behindRefusedReadings() {
        Check check = Check.of("a(k:l*)");
        check.scribe.make(0);
        check.scribe.make(0);
        check.scribe.add(0, 0, 1);
        check.readText("<a><a/></a>");
        Check.due("same(0)", check.scribe.same(0), true);
        check.readText("<a>");
        Check.due("same(0) behind a wrong text", check.scribe.same(0), true);
        check.readText("<a><a/><a/><q/></a>");
        Check.due("same(0) behind a text without meaning", check.scribe.same(0), true);
        check.readText("<a/>");
        Check.due("same(0) behind another text", check.scribe.same(0), false);
        Check.due("same(1) behind another text", check.scribe.same(1), true);
    }

    /** "that of the read heap's first object" */
    private static void onlyTheFirstThatWasRead() {
        Check check = Check.of("a(k:l*);b()");
        check.scribe.make(1);
        check.readText("<a><b/></a>");
        Check.due("the second object", check.scribe.same(0), false);
    }

    /** "the graph of a root": the last object may be one, and the others need not be in it. */
    private static void anotherRoot() {
        Check check = Check.of("a(n:i,r:r)");
        for (int i = 0; i < 30; i++) {
            check.scribe.make(0);
            check.scribe.set(i, 0, i);
        }
        check.readText("<a><n>29</n></a>");
        Check.due("same(29)", check.scribe.same(29), true);
        Check.due("same(28)", check.scribe.same(28), false);
        check.scribe.set(29, 1, 0);
        Check.due("same(29) with a reference", check.scribe.same(29), false);
        check.readText("<a><r class='a'/><n>29</n></a>");
        Check.due("same(29) with a reference", check.scribe.same(29), true);
    }

    /** "objects that are come to by the same ways are of the same classes" */
    private static void classesOfObjects() {
        Check check = Check.of("a(r:r,k:l*);b(r:r,k:l*)");
        check.scribe.make(0);
        check.scribe.make(1);
        same(check, "<a/>", true);
        same(check, "<b/>", false);
        check.scribe.set(0, 0, 1);
        same(check, "<a><r class='b'/></a>", true);
        same(check, "<a><r class='a'/></a>", false);
        check.scribe.add(0, 1, 1);
        same(check, "<a><r class='b'/><b reference='../r'/></a>", true);
        same(check, "<a><r class='b'/><b/></a>", false);
        same(check, "<a><r class='b'/><a/></a>", false);
    }

    private static void same(Check check, String text, boolean want) {
        Check.due("read() of " + text, check.readText(text) > 0, true);
        Check.due("same(0) with " + text, check.scribe.same(0), want);
    }

    /** "with the same numbers" */
    private static void numbers() {
        Check check = Check.of("a(n:i,m:i@,r:r)");
        check.scribe.make(0);
        same(check, "<a m='0'><n>0</n></a>", true);
        same(check, "<a><n>-1</n></a>", false);
        same(check, "<a m='1'/>", false);
        check.scribe.set(0, 0, MIN);
        check.scribe.set(0, 1, MAX);
        same(check, "<a m='2147483647'><n>-2147483648</n></a>", true);
        same(check, "<a m='2147483647'><n>2147483647</n></a>", false);
        same(check, "<a m='2147483646'><n>-2147483648</n></a>", false);
        check.scribe.set(0, 0, GraphScribe.NONE);
        check.scribe.set(0, 1, 0);
        same(check, "<a><n>-2</n></a>", true);
    }

    /** "with the same .. texts" */
    private static void texts() {
        Check check = Check.of("a(s:t,u:t@)");
        check.scribe.make(0);
        same(check, "<a/>", true);
        same(check, "<a><s/></a>", true);
        same(check, "<a><s> </s></a>", false);
        same(check, "<a u=' '/>", false);
        check.putText(0, 0, "abcdefghijklmnopqrst");
        same(check, "<a><s>abcdefghijklmnopqrst</s></a>", true);
        same(check, "<a><s>abcdefghijklmnopqrss</s></a>", false);
        same(check, "<a><s>bbcdefghijklmnopqrst</s></a>", false);
        same(check, "<a><s>abcdefghijklmnopqrs</s></a>", false);
        same(check, "<a u='abcdefghijklmnopqrst'/>", false);
        check.putText(0, 0, "ab");
        same(check, "<a><s>ab</s></a>", true);
        same(check, "<a><s>abcdefghijklmnopqrst</s></a>", false);
    }

    /** "places without object" */
    private static void placesWithoutObject() {
        Check check = Check.of("a(r:r,q:r)");
        check.scribe.make(0);
        check.scribe.make(0);
        same(check, "<a/>", true);
        same(check, "<a><r class='a'/></a>", false);
        same(check, "<a><q class='a'/></a>", false);
        check.scribe.set(0, 1, 1);
        same(check, "<a><q class='a'/></a>", true);
        same(check, "<a/>", false);
        same(check, "<a><r class='a'/></a>", false);
    }

    /** "and lengths" */
    private static void lengths() {
        Check check = Check.of("a(l:l,k:l*)");
        check.scribe.make(0);
        check.scribe.make(0);
        same(check, "<a><l/></a>", true);
        same(check, "<a><l><a reference='/a'/></l></a>", false);
        for (int i = 0; i < 8; i++) {
            check.scribe.add(0, 1, 0);
        }
        same(check, "<a>" + "<a reference='..'/>".repeat(8) + "</a>", true);
        same(check, "<a>" + "<a reference='..'/>".repeat(7) + "</a>", false);
    }

    /** "two ways lead to one object in both" */
    private static void oneObjectInBoth() {
        Check check = Check.of("h(l:l,r:r);e()");
        check.scribe.make(0);
        check.scribe.make(1);
        check.scribe.add(0, 0, 1);
        check.scribe.set(0, 1, 1);
        same(check, "<h><l><e/></l><r reference='../l/e'/></h>", true);
        same(check, "<h><r class='e'/><l><e reference='../../r'/></l></h>", true);
        same(check, "<h><l><e/></l><r class='e'/></h>", false);
    }

    /** "or in none" */
    private static void oneObjectInOneAlone() {
        Check check = Check.of("h(l:l,r:r);e()");
        check.scribe.make(0);
        check.scribe.make(1);
        check.scribe.make(1);
        check.scribe.add(0, 0, 1);
        check.scribe.set(0, 1, 2);
        same(check, "<h><l><e/></l><r class='e'/></h>", true);
        same(check, "<h><l><e/></l><r reference='../l/e'/></h>", false);
    }

    /** Two ways that change their objects are no longer the same, though each of them leads to one of these. */
    private static void twoObjectsForOne() {
        Check check = Check.of("h(k:l*);e()");
        check.scribe.make(0);
        check.scribe.make(1);
        check.scribe.make(1);
        int[] list = {1, 2, 1, 2};
        for (int target : list) {
            check.scribe.add(0, 0, target);
        }
        same(check, "<h><e/><e/><e reference='../e'/><e reference='../e[2]'/></h>", true);
        same(check, "<h><e/><e/><e reference='../e[2]'/><e reference='../e'/></h>", false);
        same(check, "<h><e/><e/><e reference='../e'/><e reference='../e'/></h>", false);
    }

    /** Ways in circles have no end, but the graphs have. */
    private static void circles() {
        Check check = Check.of("a(r:r)");
        check.scribe.make(0);
        check.scribe.make(0);
        check.scribe.set(0, 0, 0);
        same(check, "<a><r reference='..'/></a>", true);
        same(check, "<a><r class='a'><r reference='/a'/></r></a>", false);
        check.scribe.set(0, 0, 1);
        check.scribe.set(1, 0, 0);
        same(check, "<a><r class='a'><r reference='/a'/></r></a>", true);
        same(check, "<a><r reference='..'/></a>", false);
        same(check, "<a><r class='a'><r reference='..'/></r></a>", false);
    }

    /** The most objects, each in the other's list and in circles. */
    private static void thirtyObjects() {
        Check check = Check.of("a(k:l*,r:r)");
        for (int i = 0; i < 30; i++) {
            check.scribe.make(0);
        }
        for (int i = 1; i < 30; i++) {
            check.scribe.add((i - 1) / 7, 0, i);
            check.scribe.set(i, 1, 29 - i);
        }
        for (int mode = 0; mode <= 2; mode++) {
            Check.due("write", check.scribe.write(0, mode) > 0, true);
            check.scribe.take();
            Check.due("read()", check.scribe.read(), 30);
            Check.due("same(0)", check.scribe.same(0), true);
            check.scribe.set(29, 1, GraphScribe.NONE);
            Check.due("same(0), the last is another", check.scribe.same(0), false);
            check.scribe.set(29, 1, 0);
        }
    }

    private static void nothingChanges() {
        Edge.refused("same(0)", 0, s -> Edge.is(s.same(0)));
        Edge.refused("same(1)", 0, s -> Edge.is(s.same(1)));
    }
}
