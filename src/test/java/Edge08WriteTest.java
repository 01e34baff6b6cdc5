/** The edges of promises 8 and 9 and of WRITTEN. */
public final class Edge08WriteTest {
    private static final int MIN = Integer.MIN_VALUE;
    private static final int MAX = Integer.MAX_VALUE;

    public static void main(String[] args) {
        limits();
        noSuchLimit();
        writeOfNone();
        noSuchMode();
        mostSigns();
        tooLong();
        tooDeep();
        deepestInEachWay();
        referencesAreNeverTooDeep();
        limitOfOneAndTwenty();
        depthBeforeLess();
        whatHoldsFirst();
        noContent();
        noObject();
        emptyLists();
        blanks();
        signsInValuesAndTexts();
        classOfReferenceFields();
        idsInModeTwo();
        firstIdToLast();
        onlyAttributeOfReferences();
        pathOfRoot();
        wayToParent();
        wayToBefore();
        steps();
        lastStep();
        longestWays();
        longestWayFromList();
        writtenAgainInModeThree();
        Check.end();
    }

    /** limit: "Another LIMIT: what it was."; "(1 .. 20)" */
    private static void limits() {
        Check check = Edge.full();
        Check.due("limit(1)", check.scribe.limit(1), 7);
        Check.due("limit(20)", check.scribe.limit(20), 1);
        Check.due("limit(20) again", check.scribe.limit(20), 20);
        Check.due("limit(2)", check.scribe.limit(2), 20);
        Check.due("limit(19)", check.scribe.limit(19), 2);
        Check.due("limit(19) again", check.scribe.limit(19), 19);
        Edge.refused("limit(7), as it was", 7, s -> s.limit(7));
    }

    /** limit: "BAD: none such." */
    private static void noSuchLimit() {
        int[] none = {0, -1, 21, 22, MIN, MAX};
        for (int most : none) {
            Edge.refused("limit(" + most + ")", GraphScribe.BAD, s -> s.limit(most));
        }
    }

    /** write: "BAD: none such" root; "What was written before stays then." */
    private static void writeOfNone() {
        int[] none = {-1, GraphScribe.NONE, 3, 29, 30, MIN, MAX};
        for (int root : none) {
            for (int mode = 0; mode <= 3; mode++) {
                int m = mode;
                Edge.refused("write(" + root + ", " + mode + ")", GraphScribe.BAD, s -> s.write(root, m));
            }
        }
        Check check = Edge.full();
        Check.due("the last object", check.write(2, 0), "<c/>");
        Edge.unchanged("an empty heap", Check.of("a()"), GraphScribe.BAD, s -> s.write(0, 0));
    }

    /** write: "BAD: none such" mode */
    private static void noSuchMode() {
        int[] none = {-1, 4, 5, MIN, MAX};
        for (int mode : none) {
            Edge.refused("write(0, " + mode + ")", GraphScribe.BAD, s -> s.write(0, mode));
            Edge.refused("write(9, " + mode + ")", GraphScribe.BAD, s -> s.write(9, mode));
        }
    }

    /** write: "TOO_LONG: more than 3,000": 3,000 are not. */
    private static void mostSigns() {
        for (int more = -1; more <= 0; more++) {
            Check check = Edge.ofLength(more);
            Check.due("write", check.scribe.write(0, 3), 3000 + more);
            Check.due("count(3)", check.scribe.count(3), 3000 + more);
            Check.due("the text", check.written(), Edge.textOfLength(more));
            Check.due("its last sign", check.scribe.sign(2999 + more), '>');
            Check.due("behind it", check.scribe.sign(3000 + more), GraphScribe.BAD);
        }
    }

    /** write: "TOO_LONG: more than 3,000 .. What was written before stays then." */
    private static void tooLong() {
        Check check = Edge.ofLength(1);
        check.scribe.write(2, 1);
        check.collect("<b s='q'/>");
        check.scribe.read();
        check.collect("rest");
        Check.due("how long it is", Edge.textOfLength(1).length(), 3001);
        Edge.unchanged("3,001 signs", check, GraphScribe.TOO_LONG, s -> s.write(0, 3));
        Check again = Edge.ofLength(0);
        again.scribe.write(0, 3);
        again.scribe.take();
        again.putText(2, 0, "");
        again.scribe.take();
        again.scribe.add(0, 3, 1);
        again.scribe.add(0, 3, 1);
        again.scribe.add(0, 3, 2);
        Edge.unchanged("more behind 3,000 signs", again, GraphScribe.TOO_LONG, s -> s.write(0, 3));
    }

    /** A chain of objects: by references, by lists or by implicit lists. */
    private static Check chain(int field, int objects) {
        Check check = Check.of("a(r:r,l:l,k:l*,n:i)");
        for (int i = 0; i < objects; i++) {
            check.scribe.make(0);
        }
        for (int i = 1; i < objects; i++) {
            if (field == 0) {
                check.scribe.set(i - 1, 0, i);
            } else {
                check.scribe.add(i - 1, field, i);
            }
        }
        return check;
    }

    /** "An element of an object within those of LIMIT others .. is too deep"; "What was written before stays then." */
    private static void tooDeep() {
        for (int field = 0; field < 3; field++) {
            for (int mode = 0; mode <= 3; mode++) {
                Check check = chain(field, 5);
                int m = mode;
                check.scribe.limit(5);
                Check.due("five objects, LIMIT 5", check.scribe.write(0, mode) > 0, true);
                check.scribe.limit(4);
                check.collect("rest");
                Edge.unchanged("five objects, LIMIT 4", check, GraphScribe.TOO_DEEP, s -> s.write(0, m));
                Check.due("four of them, LIMIT 4", check.scribe.write(1, mode) > 0, true);
            }
        }
    }

    /** "(1 .. 20)": the greatest LIMIT, with 20 objects and with 21. */
    private static void deepestInEachWay() {
        for (int field = 0; field < 3; field++) {
            for (int mode = 0; mode <= 3; mode++) {
                Check check = chain(field, 21);
                int m = mode;
                check.scribe.limit(20);
                Edge.unchanged("21 objects, LIMIT 20", check, GraphScribe.TOO_DEEP, s -> s.write(0, m));
                Check.due("20 objects, LIMIT 20", check.scribe.write(1, mode) > 0, true);
            }
        }
    }

    /** "(one of a reference never is)" */
    private static void referencesAreNeverTooDeep() {
        for (int field = 0; field < 3; field++) {
            for (int mode = 0; mode <= 2; mode++) {
                Check check = chain(field, 3);
                check.scribe.limit(3);
                check.scribe.set(2, 0, 0);
                check.scribe.add(2, 1, 1);
                check.scribe.add(2, 2, 2);
                Check.due("references within LIMIT others", check.scribe.write(0, mode) > 0, true);
            }
            Check check = chain(field, 3);
            check.scribe.limit(3);
            check.scribe.add(2, 2, 2);
            Edge.unchanged("in mode 3", check, GraphScribe.TOO_DEEP, s -> s.write(0, 3));
        }
    }

    /** The smallest LIMIT: a root alone is never within others. */
    private static void limitOfOneAndTwenty() {
        Check check = chain(0, 2);
        check.scribe.limit(1);
        Check.due("an object alone", check.write(1, 0), "<a><l/><n>0</n></a>");
        Edge.unchanged("one within it", check, GraphScribe.TOO_DEEP, s -> s.write(0, 0));
        check.scribe.limit(2);
        Check.due("one within it, LIMIT 2", check.write(0, 0),
                "<a><r class=\"a\"><l/><n>0</n></r><l/><n>0</n></a>");
    }

    /** A root whose last object begins its content with so many signs behind it, and has a reference to the root. */
    private static Check nearlyFull(String text) {
        Check check = Check.of("rr(l:l,m:l,n:l);b(s:t@,r:r)");
        check.scribe.make(0);
        check.scribe.make(1);
        check.scribe.make(1);
        check.putText(1, 0, "\"".repeat(20));
        check.putText(2, 0, text);
        for (int i = 0; i < 24; i++) {
            check.scribe.add(0, i / 8, i < 23 ? 1 : 2);
        }
        check.scribe.set(2, 1, 0);
        check.scribe.limit(2);
        return check;
    }

    /** "an element's depth before its <": 3,000 signs are written where the element that is too deep would begin. */
    private static void depthBeforeLess() {
        Edge.unchanged("too deep behind 2,999 signs", nearlyFull("abc"), GraphScribe.TOO_DEEP, s -> s.write(0, 3));
        Edge.unchanged("too deep behind 3,000 signs", nearlyFull("abcd"), GraphScribe.TOO_DEEP, s -> s.write(0, 3));
    }

    /** "(what holds first in the order of writing" */
    private static void whatHoldsFirst() {
        Edge.unchanged("too long before too deep", nearlyFull("abcde"), GraphScribe.TOO_LONG, s -> s.write(0, 3));
        Check deep = nearlyFull("abcde");
        deep.scribe.set(1, 1, 0);
        Edge.unchanged("too deep before too long", deep, GraphScribe.TOO_DEEP, s -> s.write(0, 3));
    }

    /** "or < name attributes /> if it has no content" */
    private static void noContent() {
        Check check = Check.of("a();b(m:i@);c(r:r,k:l*);d(s:t);e(l:l)");
        for (int i = 0; i < 5; i++) {
            check.scribe.make(i);
        }
        Check.due("no fields", check.write(0, 0), "<a/>");
        Check.due("attributes alone", check.write(1, 0), "<b m=\"0\"/>");
        Check.due("fields without an element", check.write(2, 0), "<c/>");
        Check.due("a text without signs", check.write(3, 0), "<d><s/></d>");
        Check.due("a list without objects", check.write(4, 0), "<e><l/></e>");
        Check.due("an id alone", check.write(0, 2), "<a id=\"1\"/>");
        check.putText(3, 0, " ");
        Check.due("a text of a blank", check.write(3, 0), "<d><s> </s></d>");
    }

    /** "a reference to an object that object's element, with the field's name (to none: nothing)" */
    private static void noObject() {
        Check check = Check.of("a(n:i,r:r,q:r)");
        check.scribe.make(0);
        check.scribe.make(0);
        Check.due("to none", check.write(0, 0), "<a><n>0</n></a>");
        check.scribe.set(0, 2, 1);
        Check.due("one to none", check.write(0, 0), "<a><n>0</n><q class=\"a\"><n>0</n></q></a>");
        check.scribe.set(0, 2, GraphScribe.NONE);
        Check.due("to none again", check.write(0, 0), "<a><n>0</n></a>");
    }

    /** "a list an element with the field's name, in it its objects' elements ..; an implicit one these elements alone" */
    private static void emptyLists() {
        Check check = Check.of("a(l:l,k:l*,m:l)");
        check.scribe.make(0);
        check.scribe.make(0);
        Check.due("no objects", check.write(0, 0), "<a><l/><m/></a>");
        check.scribe.add(0, 1, 1);
        Check.due("one in the implicit list", check.write(0, 0), "<a><l/><a><l/><m/></a><m/></a>");
        check.scribe.add(0, 0, 0);
        Check.due("one in the other", check.write(0, 2),
                "<a id=\"1\"><l><a reference=\"1\"/></l><a id=\"2\"><l/><m/></a><m/></a>");
        Check full = Check.of("h(l:l,k:l*);e()");
        full.scribe.make(0);
        full.scribe.make(1);
        for (int i = 0; i < 8; i++) {
            full.scribe.add(0, 0, 1);
            full.scribe.add(0, 1, 1);
        }
        Check.due("eight in each", full.write(0, 3), "<h><l>" + "<e/>".repeat(8) + "</l>" + "<e/>".repeat(8) + "</h>");
    }

    /** "there are no blanks but one before each attribute" */
    private static void blanks() {
        Check check = Check.of("a(m:i@,u:t@,n:i,r:r)");
        check.scribe.make(0);
        check.scribe.set(0, 3, 0);
        String text = check.write(0, 2);
        Check.due("blanks", text, "<a id=\"1\" m=\"0\" u=\"\"><n>0</n><r reference=\"1\"/></a>");
        Check.due("how many", text.length() - text.replace(" ", "").length(), 4);
    }

    /** "In values & < > \" are written as &amp; &lt; &gt; &quot;, in texts & < > so." */
    private static void signsInValuesAndTexts() {
        Check check = Check.of("a(u:t@,s:t)");
        check.scribe.make(0);
        for (char u = 32; u <= 126; u++) {
            Check.due("text", check.putText(0, 0, "" + u), true);
            Check.due("text", check.putText(0, 1, "" + u), true);
            String inText = u == '&' ? "&amp;" : u == '<' ? "&lt;" : u == '>' ? "&gt;" : "" + u;
            String inValue = u == '"' ? "&quot;" : inText;
            Check.due("sign " + (int) u, check.write(0, 0), "<a u=\"" + inValue + "\"><s>" + inText + "</s></a>");
            if (check.scribe.left() < 20) {
                check = Check.of("a(u:t@,s:t)");
                check.scribe.make(0);
            }
        }
        check.putText(0, 1, "&&<<>>&amp;\"\"'");
        check.putText(0, 0, "");
        Check.due("several", check.write(0, 0), "<a u=\"\"><s>&amp;&amp;&lt;&lt;&gt;&gt;&amp;amp;\"\"'</s></a>");
    }

    /** "class, if it is of a reference field (the name of the object's class)" */
    private static void classOfReferenceFields() {
        Check check = Check.of("a(r:r,l:l,k:l*);b_()");
        check.scribe.make(0);
        check.scribe.make(1);
        check.scribe.make(1);
        check.scribe.make(1);
        check.scribe.set(0, 0, 1);
        check.scribe.add(0, 1, 2);
        check.scribe.add(0, 2, 3);
        Check.due("write", check.write(0, 1), "<a><r class=\"b__\"/><l><b__/></l><b__/></a>");
    }

    /** "id in MODE 2" */
    private static void idsInModeTwo() {
        Check check = chain(0, 2);
        Check.due("mode 2", check.write(0, 2),
                "<a id=\"1\"><r class=\"a\" id=\"2\"><l/><n>0</n></r><l/><n>0</n></a>");
        String without = "<a><r class=\"a\"><l/><n>0</n></r><l/><n>0</n></a>";
        Check.due("mode 0", check.write(0, 0), without);
        Check.due("mode 1", check.write(0, 1), without);
        Check.due("mode 3", check.write(0, 3), without);
    }

    /** "the number of the object (1, 2, .. in the order of beginning)": up to 30, whatever their numbers in the heap are. */
    private static void firstIdToLast() {
        Check check = Check.of("h(k:l*);e(k:l*)");
        for (int i = 0; i < 30; i++) {
            check.scribe.make(i < 29 ? 1 : 0);
        }
        StringBuilder want = new StringBuilder("<h id=\"1\">");
        for (int i = 0; i < 4; i++) {
            check.scribe.add(29, 0, 28 - 7 * i);
            want.append("<e id=\"").append(2 + 7 * i).append("\">");
            for (int j = 1; j < 7; j++) {
                check.scribe.add(28 - 7 * i, 0, 28 - 7 * i - j);
                want.append("<e id=\"").append(2 + 7 * i + j).append("\"/>");
            }
            want.append("</e>");
        }
        check.scribe.add(29, 0, 0);
        check.scribe.add(29, 0, 0);
        check.scribe.add(29, 0, 29);
        want.append("<e id=\"30\"/><e reference=\"30\"/><h reference=\"1\"/></h>");
        Check.due("30 objects", check.write(29, 2), want.toString());
    }

    /** "an element without content, whose only attribute is reference" */
    private static void onlyAttributeOfReferences() {
        Check check = Check.of("a(m:i@,n:i,r:r,k:l*)");
        check.scribe.make(0);
        check.scribe.set(0, 2, 0);
        check.scribe.add(0, 3, 0);
        Check.due("mode 0", check.write(0, 0),
                "<a m=\"0\"><n>0</n><r reference=\"..\"/><a reference=\"..\"/></a>");
        Check.due("mode 1", check.write(0, 1),
                "<a m=\"0\"><n>0</n><r reference=\"/a\"/><a reference=\"/a\"/></a>");
        Check.due("mode 2", check.write(0, 2),
                "<a id=\"1\" m=\"0\"><n>0</n><r reference=\"1\"/><a reference=\"1\"/></a>");
    }

    /** "in mode 1 its PATH from the root, / and a step for each element on it": that of the root has one. */
    private static void pathOfRoot() {
        Check check = chain(1, 2);
        check.scribe.set(1, 0, 0);
        Check.due("the root", check.write(0, 1),
                "<a><l><a><r reference=\"/a\"/><l/><n>0</n></a></l><n>0</n></a>");
        check.scribe.set(1, 0, 1);
        Check.due("one in a list", check.write(0, 1),
                "<a><l><a><r reference=\"/a/l/a\"/><l/><n>0</n></a></l><n>0</n></a>");
    }

    /** ".. for each element from the root down to this one (both too) that is not on the way from the root to that one" */
    private static void wayToParent() {
        Check check = chain(1, 2);
        check.scribe.set(1, 0, 1);
        Check.due("its parent", check.write(0, 0),
                "<a><l><a><r reference=\"..\"/><l/><n>0</n></a></l><n>0</n></a>");
        check.scribe.set(1, 0, 0);
        Check.due("the root", check.write(0, 0),
                "<a><l><a><r reference=\"../../..\"/><l/><n>0</n></a></l><n>0</n></a>");
    }

    /** "then a step for each element on the way to that one that is not on the way to this one, with / between" */
    private static void wayToBefore() {
        Check check = Check.of("h(r:r,q:r,l:l);e()");
        check.scribe.make(0);
        check.scribe.make(1);
        check.scribe.set(0, 0, 1);
        check.scribe.set(0, 1, 1);
        check.scribe.add(0, 2, 1);
        Check.due("one before it", check.write(0, 0),
                "<h><r class=\"e\"/><q reference=\"../r\"/><l><e reference=\"../../r\"/></l></h>");
    }

    /** "if it is the k-th one of this name among its parent's elements, k above 1, [k]" */
    private static void steps() {
        Check check = Check.of("h(l:l,r:r,q:r);e();f()");
        int[] kinds = {0, 1, 2, 1};
        for (int kind : kinds) {
            check.scribe.make(kind);
        }
        check.scribe.add(0, 0, 1);
        check.scribe.add(0, 0, 2);
        check.scribe.add(0, 0, 3);
        check.scribe.set(0, 1, 1);
        check.scribe.set(0, 2, 3);
        Check.due("the first and the second", check.write(0, 1),
                "<h><l><e/><f/><e/></l><r reference=\"/h/l/e\"/><q reference=\"/h/l/e[2]\"/></h>");
        check.scribe.set(0, 1, 2);
        Check.due("the only one of its name", check.write(0, 0),
                "<h><l><e/><f/><e/></l><r reference=\"../l/f\"/><q reference=\"../l/e[2]\"/></h>");
    }

    /** The eighth of a list, behind one that is there seven times. */
    private static void lastStep() {
        Check check = Check.of("h(k:l*,r:r);e()");
        check.scribe.make(0);
        check.scribe.make(1);
        check.scribe.make(1);
        for (int i = 0; i < 8; i++) {
            check.scribe.add(0, 0, i < 7 ? 1 : 2);
        }
        check.scribe.set(0, 1, 2);
        Check.due("the eighth", check.write(0, 1),
                "<h><e/>" + "<e reference=\"/h/e\"/>".repeat(6) + "<e/><r reference=\"/h/e[8]\"/></h>");
    }

    /** 20 objects, one in the list of the other, with the content of the last and of the first behind these lists. */
    private static String nested(String last, String first) {
        return "<a><l>".repeat(19) + "<a><l/>" + last + "</a>" + "</l></a>".repeat(18) + "</l>" + first + "</a>";
    }

    /** "for each element from the root down to this one (both too)": 40 elements, and 39 on the way to the last object */
    private static void longestWays() {
        Check check = Check.of("a(l:l,r:r)");
        check.scribe.limit(20);
        for (int i = 0; i < 20; i++) {
            check.scribe.make(0);
        }
        for (int i = 0; i < 19; i++) {
            check.scribe.add(i, 0, i + 1);
        }
        check.scribe.set(19, 1, 0);
        check.scribe.set(0, 1, 19);
        String up = ".." + "/..".repeat(38);
        String down = "/l/a".repeat(19);
        Check.due("mode 0", check.write(0, 0),
                nested("<r reference=\"" + up + "\"/>", "<r reference=\".." + down + "\"/>"));
        Check.due("mode 1", check.write(0, 1),
                nested("<r reference=\"/a\"/>", "<r reference=\"/a" + down + "\"/>"));
        for (int mode = 0; mode <= 2; mode++) {
            Check.due("write", check.scribe.write(0, mode) > 0, true);
            check.scribe.take();
            Check.due("read() of mode " + mode, check.scribe.read(), 20);
            Check.due("same(0) behind mode " + mode, check.scribe.same(0), true);
        }
    }

    /** One element more is written, but too deep to be read. */
    private static void longestWayFromList() {
        Check check = Check.of("a(l:l)");
        check.scribe.limit(20);
        for (int i = 0; i < 20; i++) {
            check.scribe.make(0);
        }
        for (int i = 0; i < 20; i++) {
            check.scribe.add(i, 0, (i + 1) % 20);
        }
        String text = "<a><l>".repeat(20) + "<a reference=\"" + ".." + "/..".repeat(39) + "\"/>" + "</l></a>".repeat(20);
        Check.due("mode 0", check.write(0, 0), text);
        check.scribe.take();
        Check.due("read()", check.scribe.read(), -1 - "<a><l>".length() * 20);
    }

    /** "An object that was begun before is not written again, but in MODE 3" */
    private static void writtenAgainInModeThree() {
        Check check = Check.of("h(l:l,k:l*);e()");
        check.scribe.make(0);
        check.scribe.make(1);
        check.scribe.add(0, 0, 1);
        check.scribe.add(0, 0, 1);
        check.scribe.add(0, 1, 1);
        Check.due("mode 3", check.write(0, 3), "<h><l><e/><e/></l><e/></h>");
        Check.due("mode 0", check.write(0, 0),
                "<h><l><e/><e reference=\"../e\"/></l><e reference=\"../l/e\"/></h>");
        check.scribe.add(0, 0, 0);
        Edge.unchanged("a circle in mode 3", check, GraphScribe.TOO_DEEP, s -> s.write(0, 3));
    }
}
