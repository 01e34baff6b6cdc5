/** Promise 12: classes are forbidden to be read. */
public final class P12ForbidTest {
    public static void main(String[] args) {
        Check check = Check.of("a(r:r,l:l);b(m:l*);c()");
        Scribe scribe = check.scribe;
        Check.due("forbid(1, false)", scribe.forbid(1, false), false);
        Check.due("forbid(1, true)", scribe.forbid(1, true), false);
        Check.due("forbid(1, true) again", scribe.forbid(1, true), true);
        Check.due("count(5)", scribe.count(5), 1);
        Check.due("forbid(2, true)", scribe.forbid(2, true), false);
        Check.due("count(5)", scribe.count(5), 2);
        Check.due("forbid(1, false)", scribe.forbid(1, false), true);
        Check.due("forbid(1, false) again", scribe.forbid(1, false), false);
        Check.due("count(5)", scribe.count(5), 1);
        int[] wrong = {-1, 3, 6, Integer.MIN_VALUE, Integer.MAX_VALUE};
        for (int cls : wrong) {
            Check.due("forbid(" + cls + ", true)", scribe.forbid(cls, true), false);
            Check.due("forbid(" + cls + ", true) again", scribe.forbid(cls, true), false);
        }
        Check.due("count(5)", scribe.count(5), 1);
        reading(check);
        Check.due("make of a forbidden class", scribe.make(2), 0);
        Check.due("write of a forbidden class", check.write(0, 0), "<c/>");
        Check.end();
    }

    private static void reading(Check check) {
        Check.due("root", check.readText("<c/>"), -10001);
        Check.due("in a reference field", check.readText("<a><r class=\"c\"/></a>"), -10004);
        Check.due("in a list", check.readText("<a><l><c/></l></a>"), -10007);
        Check.due("in an implicit list", check.readText("<b><b/><c/></b>"), -10008);
        Check.due("a reference in a list", check.readText("<a><l><c reference=\"/a\"/></l></a>"), -10007);
        Check.due("another class", check.readText("<a><l><b/></l></a>"), 2);
        check.scribe.forbid(2, false);
        Check.due("not any more", check.readText("<a><r class=\"c\"/><l><c/></l></a>"), 3);
        check.scribe.forbid(2, true);
        Check.due("what was read stays", check.scribe.count(2), 3);
    }
}
