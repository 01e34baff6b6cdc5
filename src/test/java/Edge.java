import java.util.function.ToLongFunction;

/**
 * What the tests of edges share: a scribe of which everything is there, calls that are refused and leave it as it was,
 * and texts in which a ^ marks the sign that is told.
 */
final class Edge {
    /** The third class is forbidden in the scene. */
    static final String CLASSES = "a(n:i,s:t,r:r,l:l);b(m:i@,u:t@,k:l*);c()";

    private Edge() {
    }

    /** Classes, a heap, another LIMIT, a forbidden class, something written and something read; nothing is collected. */
    static Check full() {
        Check check = Check.of(CLASSES);
        Scribe scribe = check.scribe;
        scribe.make(0);
        scribe.make(1);
        scribe.make(2);
        scribe.set(0, 0, -5);
        check.putText(0, 1, "hi");
        scribe.set(0, 2, 1);
        scribe.add(0, 3, 1);
        scribe.add(0, 3, 0);
        scribe.set(1, 0, 7);
        scribe.add(1, 2, 0);
        scribe.limit(7);
        scribe.forbid(2, true);
        scribe.write(1, 0);
        check.readText("<b m='3'><a/></b>");
        return check;
    }

    /** As full, and something is collected. */
    static Check fullAndCollected() {
        Check check = full();
        check.collect("x()");
        return check;
    }

    /** A heap whose object 0 is written, in mode 3, with 3,000 signs, or as many more as told (-1, 0 or 1). */
    static Check ofLength(int more) {
        Check check = Check.of("rr(l:l,m:l,n:l,o:l);b(s:t@,r:r)");
        check.scribe.make(0);
        check.scribe.make(1);
        check.scribe.make(1);
        check.putText(1, 0, "\"".repeat(20));
        check.putText(2, 0, "\"".repeat(19) + (more < 0 ? "<" : more == 0 ? "&" : "\""));
        for (int i = 0; i < 23; i++) {
            check.scribe.add(0, i / 8, i < 22 ? 1 : 2);
        }
        return check;
    }

    /** What is written by ofLength. */
    static String textOfLength(int more) {
        String leaf = "<b s=\"" + "&quot;".repeat(20) + "\"/>";
        return "<rr><l>" + leaf.repeat(8) + "</l><m>" + leaf.repeat(8) + "</m><n>" + leaf.repeat(6) + "<b s=\""
                + "&quot;".repeat(19) + (more < 0 ? "&lt;" : more == 0 ? "&amp;" : "&quot;") + "\"/></n><o/></rr>";
    }

    /** A call is answered so, and everything is as it was. */
    static void unchanged(String what, Check check, long want, ToLongFunction<Scribe> call) {
        State before = new State(check.scribe);
        Check.due(what, call.applyAsLong(check.scribe), want);
        before.dueNow(what, check.scribe);
    }

    /** A call is answered so, and everything is as it was, in a scribe of which everything is there. */
    static void refused(String what, long want, ToLongFunction<Scribe> call) {
        unchanged(what, fullAndCollected(), want, call);
    }

    static int is(boolean answer) {
        return answer ? 1 : 0;
    }

    static Check rightClasses(String text, int want) {
        Check check = new Check();
        Check.due("classes() of " + text, check.tellClasses(text), want);
        Check.due("count(0) behind classes() of " + text, check.scribe.count(0), want);
        return check;
    }

    /** The sign behind the ^ is wrong: all else stays, but what was collected. */
    static void wrongClasses(String marked) {
        String text = marked.replace("^", "");
        Check check = full();
        State before = new State(check.scribe);
        Check.due("classes() of " + text, check.tellClasses(text), -1 - marked.indexOf('^'));
        before.dueNow("classes() of " + text, check.scribe);
    }

    /** So many objects are read; what was collected is gone. */
    static Check right(String text, int objects) {
        Check check = full();
        Check.due("read() of " + text, check.readText(text), objects);
        Check.due("count(2) behind read() of " + text, check.scribe.count(2), objects);
        Check.due("count(4) behind read() of " + text, check.scribe.count(4), 0);
        return check;
    }

    /** The sign behind the ^ is wrong as XML: what was read before stays. */
    static void wrong(String marked) {
        refusedText(marked.replace("^", ""), -1 - marked.indexOf('^'));
    }

    /** The element behind the ^ has no meaning: what was read before stays. */
    static void senseless(String marked) {
        refusedText(marked.replace("^", ""), GraphScribe.MEANING - marked.indexOf('^'));
    }

    private static void refusedText(String text, int want) {
        Check check = full();
        State before = new State(check.scribe);
        Check.due("read() of " + text, check.readText(text), want);
        before.dueNow("read() of " + text, check.scribe);
    }
}
