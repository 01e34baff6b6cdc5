/** Promise 14: whether the graph of a root and the one that was read are the same. */
public final class P14SameTest {
    private static final String CLASSES = "a(n:i,s:t,r:r,l:l);b(n:i,s:t,r:r,l:l)";

    public static void main(String[] args) {
        nothingRead();
        eachField();
        sharing();
        circles();
        unreachableObjects();
        Check.end();
    }

    private static void same(String what, Check check, String text, boolean want) {
        Check.due("read of " + text, check.readText(text) > 0, true);
        Check.due(what + " with " + text, check.scribe.same(0), want);
    }

    private static void nothingRead() {
        Check check = Check.of(CLASSES);
        check.scribe.make(0);
        Check.due("nothing read", check.scribe.same(0), false);
        check.readText("<a/>");
        Check.due("same(0)", check.scribe.same(0), true);
        int[] wrong = {1, -1, 30, Integer.MIN_VALUE, Integer.MAX_VALUE};
        for (int root : wrong) {
            Check.due("same(" + root + ")", check.scribe.same(root), false);
        }
        Check.due("read of a wrong text", check.readText("<a"), -3);
        Check.due("same(0) behind it", check.scribe.same(0), true);
    }

    private static void eachField() {
        Check check = Check.of(CLASSES);
        check.scribe.make(0);
        check.scribe.make(1);
        same("another class", check, "<b/>", false);
        check.scribe.set(0, 0, 5);
        same("number", check, "<a><n>5</n></a>", true);
        same("number", check, "<a><n>6</n></a>", false);
        same("number", check, "<a/>", false);
        check.putText(0, 1, "xy");
        same("text", check, "<a><n>5</n><s>xy</s></a>", true);
        same("text", check, "<a><n>5</n><s>xz</s></a>", false);
        same("text", check, "<a><n>5</n><s>x</s></a>", false);
        same("text", check, "<a><n>5</n><s>yy</s></a>", false);
        same("text", check, "<a><n>5</n><s>xyz</s></a>", false);
        same("text", check, "<a><n>5</n></a>", false);
        references();
        lists();
    }

    /** An object of a with a number and a text, and one of b. */
    private static Check two() {
        Check check = Check.of(CLASSES);
        check.scribe.make(0);
        check.scribe.make(1);
        check.scribe.set(0, 0, 5);
        check.putText(0, 1, "xy");
        return check;
    }

    private static void references() {
        Check check = two();
        check.scribe.set(0, 2, 1);
        same("reference", check, "<a><n>5</n><s>xy</s></a>", false);
        same("reference", check, "<a><n>5</n><s>xy</s><r class='b'/></a>", true);
        same("reference", check, "<a><n>5</n><s>xy</s><r class='a'/></a>", false);
        same("reference", check, "<a><n>5</n><s>xy</s><r reference='/a'/></a>", false);
        same("within a reference", check, "<a><n>5</n><s>xy</s><r class='b'><n>1</n></r></a>", false);
        check.scribe.set(0, 2, GraphScribe.NONE);
        same("no reference", check, "<a><n>5</n><s>xy</s><r class='b'/></a>", false);
    }

    private static void lists() {
        Check check = two();
        check.scribe.add(0, 3, 1);
        same("list", check, "<a><n>5</n><s>xy</s></a>", false);
        same("list", check, "<a><n>5</n><s>xy</s><l><b/></l></a>", true);
        same("list", check, "<a><n>5</n><s>xy</s><l><a/></l></a>", false);
        same("list", check, "<a><n>5</n><s>xy</s><l><b/><b/></l></a>", false);
        same("within a list", check, "<a><n>5</n><s>xy</s><l><b><s>q</s></b></l></a>", false);
    }

    private static void sharing() {
        Check check = Check.of("h(l:l,r:r);e()");
        check.scribe.make(0);
        check.scribe.make(1);
        check.scribe.make(1);
        check.scribe.add(0, 0, 1);
        check.scribe.add(0, 0, 1);
        same("one object twice", check, "<h><l><e/><e reference='../e'/></l></h>", true);
        same("one object twice", check, "<h><l><e/><e/></l></h>", false);
        check.scribe.set(0, 1, 2);
        same("two objects", check, "<h><l><e/><e reference='../e'/></l><r class='e'/></h>", true);
        same("two objects", check, "<h><l><e/><e reference='../e'/></l><r reference='../l/e'/></h>", false);
        check.scribe.set(0, 1, 1);
        same("one object thrice", check, "<h><r class='e'/><l><e reference='../../r'/><e reference='../../r'/></l></h>",
                true);
    }

    private static void circles() {
        Check check = Check.of("a(r:r)");
        check.scribe.make(0);
        check.scribe.make(0);
        check.scribe.set(0, 0, 1);
        check.scribe.set(1, 0, 0);
        same("a circle of two", check, "<a><r class='a'><r reference='/a'/></r></a>", true);
        same("a circle of two", check, "<a><r reference='/a'/></a>", false);
        same("a circle of two", check, "<a><r class='a'><r class='a'><r reference='/a'/></r></r></a>", false);
        same("a circle of two", check, "<a><r class='a'><r reference='/a/r'/></r></a>", false);
        same("a circle of two", check, "<a><r class='a'/></a>", false);
        Check.due("from the other one", check.scribe.same(1), false);
        check.readText("<a><r class='a'><r reference='/a'/></r></a>");
        Check.due("from the other one", check.scribe.same(1), true);
        check.scribe.set(1, 0, 1);
        Check.due("a circle of one behind one", check.scribe.same(0), false);
    }

    private static void unreachableObjects() {
        Check check = Check.of("a(n:i)");
        check.scribe.make(0);
        check.scribe.make(0);
        check.scribe.set(1, 0, 3);
        same("an object that no way leads to", check, "<a/>", true);
        same("the root's number", check, "<a><n>3</n></a>", false);
        Check.due("another root", check.scribe.same(1), true);
    }
}
