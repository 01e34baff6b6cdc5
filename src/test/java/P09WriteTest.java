/** Promise 9: an object is written, in a mode 0 .. 3. */
public final class P09WriteTest {
    public static void main(String[] args) {
        single();
        attributes();
        namesInXml();
        escapes();
        lists();
        circles();
        steps();
        waysBetweenLists();
        stepsOfImplicitLists();
        numbersOfObjects();
        tooDeep();
        referencesAreNeverTooDeep();
        tooLong();
        whatHoldsFirst();
        circlesAsTrees();
        wrongOnes();
        Check.end();
    }

    private static void single() {
        Check check = Check.of("a();b(n:i,s:t,r:r,l:l);c(l:l*,r:r)");
        check.scribe.make(0);
        check.scribe.make(1);
        check.scribe.make(2);
        for (int mode = 0; mode <= 3; mode++) {
            String id = mode == 2 ? " id=\"1\"" : "";
            Check.due("no fields", check.write(0, mode), "<a" + id + "/>");
            Check.due("fields at first", check.write(1, mode), "<b" + id + "><n>0</n><s/><l/></b>");
            Check.due("no content", check.write(2, mode), "<c" + id + "/>");
        }
        check.scribe.set(1, 0, Integer.MIN_VALUE);
        check.putText(1, 1, "x y");
        Check.due("a number and a text", check.write(1, 0), "<b><n>-2147483648</n><s>x y</s><l/></b>");
        int[] numbers = {Integer.MAX_VALUE, 1, -1, 9, 10, -10, 99, 100, 101, 999999999, 1000000000, -1000000000};
        for (int v : numbers) {
            check.scribe.set(1, 0, v);
            Check.due("the number " + v, check.write(1, 3), "<b><n>" + v + "</n><s>x y</s><l/></b>");
        }
    }

    private static void attributes() {
        Check check = Check.of("a(n:i,m:i@,s:t@,r:r)");
        check.scribe.make(0);
        check.scribe.make(0);
        check.scribe.set(0, 1, -7);
        check.putText(0, 2, "q");
        check.scribe.set(0, 3, 1);
        Check.due("mode 0", check.write(0, 0), "<a m=\"-7\" s=\"q\"><n>0</n>"
                + "<r class=\"a\" m=\"0\" s=\"\"><n>0</n></r></a>");
        Check.due("mode 2", check.write(0, 2), "<a id=\"1\" m=\"-7\" s=\"q\"><n>0</n>"
                + "<r class=\"a\" id=\"2\" m=\"0\" s=\"\"><n>0</n></r></a>");
        Check only = Check.of("a(s:t@,n:i@)");
        only.scribe.make(0);
        Check.due("attributes alone", only.write(0, 0), "<a s=\"\" n=\"0\"/>");
    }

    private static void namesInXml() {
        Check check = Check.of("_$_(a_b:i,$:t@,__$$:r,l_:l)");
        check.scribe.make(0);
        check.scribe.make(0);
        check.scribe.set(0, 2, 1);
        check.scribe.add(1, 3, 0);
        Check.due("names", check.write(0, 1), "<___-__ _-=\"\"><a__b>0</a__b><_____-_- class=\"___-__\" _-=\"\">"
                + "<a__b>0</a__b><l__><___-__ reference=\"/___-__\"/></l__></_____-_-><l__/></___-__>");
    }

    private static void escapes() {
        Check check = Check.of("a(s:t,u:t@)");
        check.scribe.make(0);
        check.putText(0, 0, "&<>\"' ~;");
        check.putText(0, 1, "&<>\"' ~;");
        Check.due("signs", check.write(0, 0),
                "<a u=\"&amp;&lt;&gt;&quot;' ~;\"><s>&amp;&lt;&gt;\"' ~;</s></a>");
    }

    private static void lists() {
        Check check = Check.of("h(l:l,m:l*,n:i);e()");
        check.scribe.make(0);
        check.scribe.make(1);
        check.scribe.make(1);
        check.scribe.add(0, 0, 1);
        check.scribe.add(0, 1, 2);
        Check.due("lists", check.write(0, 0), "<h><l><e/></l><e/><n>0</n></h>");
        check.scribe.add(0, 0, 1);
        check.scribe.add(0, 1, 1);
        Check.due("twice, mode 0", check.write(0, 0),
                "<h><l><e/><e reference=\"../e\"/></l><e/><e reference=\"../l/e\"/><n>0</n></h>");
        Check.due("twice, mode 1", check.write(0, 1),
                "<h><l><e/><e reference=\"/h/l/e\"/></l><e/><e reference=\"/h/l/e\"/><n>0</n></h>");
        Check.due("twice, mode 2", check.write(0, 2), "<h id=\"1\"><l><e id=\"2\"/><e reference=\"2\"/></l>"
                + "<e id=\"3\"/><e reference=\"2\"/><n>0</n></h>");
        Check.due("twice, mode 3", check.write(0, 3), "<h><l><e/><e/></l><e/><e/><n>0</n></h>");
    }

    private static void circles() {
        Check check = Check.of("a(r:r)");
        check.scribe.make(0);
        check.scribe.make(0);
        check.scribe.set(0, 0, 0);
        Check.due("itself, mode 0", check.write(0, 0), "<a><r reference=\"..\"/></a>");
        Check.due("itself, mode 1", check.write(0, 1), "<a><r reference=\"/a\"/></a>");
        Check.due("itself, mode 2", check.write(0, 2), "<a id=\"1\"><r reference=\"1\"/></a>");
        check.scribe.set(0, 0, 1);
        check.scribe.set(1, 0, 0);
        Check.due("two, mode 0", check.write(1, 0), "<a><r class=\"a\"><r reference=\"../..\"/></r></a>");
        Check.due("two, mode 1", check.write(1, 1), "<a><r class=\"a\"><r reference=\"/a\"/></r></a>");
        Check.due("two, mode 2", check.write(1, 2),
                "<a id=\"1\"><r class=\"a\" id=\"2\"><r reference=\"1\"/></r></a>");
        check.scribe.set(1, 0, 1);
        Check.due("the inner one, mode 0", check.write(0, 0), "<a><r class=\"a\"><r reference=\"..\"/></r></a>");
        Check.due("the inner one, mode 1", check.write(0, 1), "<a><r class=\"a\"><r reference=\"/a/r\"/></r></a>");
    }

    /** Steps count the elements of one name, those of references too, and no others. */
    private static void steps() {
        Check check = Check.of("h(l:l,r:r);a();b()");
        check.scribe.make(0);
        check.scribe.make(1);
        check.scribe.make(2);
        check.scribe.make(1);
        check.scribe.add(0, 0, 1);
        check.scribe.add(0, 0, 2);
        check.scribe.add(0, 0, 1);
        check.scribe.add(0, 0, 3);
        check.scribe.add(0, 0, 3);
        check.scribe.add(0, 0, 2);
        String list = "<h><l><a/><b/><a reference=\"../a\"/><a/><a reference=\"../a[3]\"/><b reference=\"../b\"/></l>";
        check.scribe.set(0, 1, 3);
        Check.due("the third a, mode 0", check.write(0, 0), list + "<r reference=\"../l/a[3]\"/></h>");
        check.scribe.set(0, 1, 2);
        Check.due("the first b, mode 0", check.write(0, 0), list + "<r reference=\"../l/b\"/></h>");
        check.scribe.set(0, 1, 3);
        Check.due("the third a, mode 1", check.write(0, 1), "<h><l><a/><b/><a reference=\"/h/l/a\"/><a/>"
                + "<a reference=\"/h/l/a[3]\"/><b reference=\"/h/l/b\"/></l><r reference=\"/h/l/a[3]\"/></h>");
    }

    private static void waysBetweenLists() {
        Check check = Check.of("n(l:l,m:l,r:r)");
        for (int i = 0; i < 5; i++) {
            check.scribe.make(0);
        }
        check.scribe.add(0, 0, 1);
        check.scribe.add(0, 0, 2);
        check.scribe.add(2, 0, 3);
        check.scribe.add(0, 1, 4);
        check.scribe.add(4, 1, 3);
        check.scribe.set(3, 2, 1);
        check.scribe.set(4, 2, 2);
        Check.due("mode 0", check.write(0, 0), "<n><l><n><l/><m/></n><n><l><n><l/><m/>"
                + "<r reference=\"../../../../n\"/></n></l><m/></n></l>"
                + "<m><n><l/><m><n reference=\"../../../../l/n[2]/l/n\"/></m><r reference=\"../../../l/n[2]\"/></n></m></n>");
        Check.due("mode 1", check.write(0, 1), "<n><l><n><l/><m/></n><n><l><n><l/><m/>"
                + "<r reference=\"/n/l/n\"/></n></l><m/></n></l>"
                + "<m><n><l/><m><n reference=\"/n/l/n[2]/l/n\"/></m><r reference=\"/n/l/n[2]\"/></n></m></n>");
    }

    private static void stepsOfImplicitLists() {
        Check check = Check.of("h(x:i,l:l*,m:l,r:r);a(l:l*)");
        check.scribe.make(0);
        check.scribe.make(1);
        check.scribe.make(1);
        check.scribe.make(1);
        check.scribe.add(0, 1, 1);
        check.scribe.add(0, 1, 2);
        check.scribe.add(2, 0, 1);
        check.scribe.add(2, 0, 3);
        check.scribe.add(0, 2, 3);
        check.scribe.set(0, 3, 2);
        Check.due("mode 0", check.write(0, 0), "<h><x>0</x><a/><a><a reference=\"../../a\"/><a/></a>"
                + "<m><a reference=\"../../a[2]/a[2]\"/></m><r reference=\"../a[2]\"/></h>");
        Check.due("mode 1", check.write(0, 1), "<h><x>0</x><a/><a><a reference=\"/h/a\"/><a/></a>"
                + "<m><a reference=\"/h/a[2]/a[2]\"/></m><r reference=\"/h/a[2]\"/></h>");
    }

    private static void numbersOfObjects() {
        Check check = Check.of("a(l:l*);b(r:r)");
        check.scribe.make(0);
        for (int i = 1; i <= 12; i++) {
            check.scribe.make(1);
        }
        for (int i = 0; i < 6; i++) {
            check.scribe.add(0, 0, 12 - i);
            check.scribe.set(12 - i, 0, i + 1);
        }
        StringBuilder want = new StringBuilder("<a id=\"1\">");
        for (int i = 0; i < 6; i++) {
            want.append("<b id=\"").append(2 * i + 2).append("\"><r class=\"b\" id=\"").append(2 * i + 3).append("\"/></b>");
        }
        Check.due("ids in the order of beginning", check.write(0, 2), want + "</a>");
        check.scribe.add(0, 0, 6);
        Check.due("a number of two digits", check.write(0, 2), want + "<b reference=\"13\"/></a>");
    }

    private static void tooDeep() {
        Check check = Check.of("a(r:r,l:l,m:l*)");
        check.scribe.make(0);
        check.scribe.make(0);
        check.scribe.make(0);
        check.scribe.set(0, 0, 1);
        Check.due("write", check.write(0, 0), "<a><r class=\"a\"><l/></r><l/></a>");
        String before = check.written();
        check.scribe.limit(1);
        for (int mode = 0; mode <= 3; mode++) {
            Check.due("too deep by a reference", check.scribe.write(0, mode), GraphScribe.TOO_DEEP);
        }
        check.scribe.set(0, 0, GraphScribe.NONE);
        Check.due("not too deep", check.scribe.write(0, 0), 11);
        check.scribe.add(0, 1, 2);
        Check.due("too deep by a list", check.scribe.write(0, 0), GraphScribe.TOO_DEEP);
        check.scribe.add(2, 2, 1);
        Check.due("too deep by an implicit list", check.scribe.write(2, 0), GraphScribe.TOO_DEEP);
        Check.due("what was written before", check.written(), "<a><l/></a>");
        check.scribe.limit(2);
        Check.due("within one other", check.scribe.write(2, 0) > 0, true);
        Check.due("within two others", check.scribe.write(0, 0), GraphScribe.TOO_DEEP);
        check.scribe.limit(3);
        Check.due("within two others", check.write(0, 0), "<a><l><a><l/><a><l/></a></a></l></a>");
        Check.due("the text before", before, "<a><r class=\"a\"><l/></r><l/></a>");
    }

    private static void referencesAreNeverTooDeep() {
        Check check = Check.of("a(r:r,l:l,m:l*)");
        check.scribe.make(0);
        check.scribe.limit(1);
        check.scribe.set(0, 0, 0);
        check.scribe.add(0, 1, 0);
        check.scribe.add(0, 2, 0);
        Check.due("references", check.write(0, 0),
                "<a><r reference=\"..\"/><l><a reference=\"../..\"/></l><a reference=\"..\"/></a>");
        Check.due("mode 3", check.scribe.write(0, 3), GraphScribe.TOO_DEEP);
    }

    /** A root with 23 elements of 129 signs, and one with a text of its own: 2,988 signs up to this one's &lt;. */
    private static Check nearlyFull(String text) {
        Check check = Check.of("rr(l:l,m:l,n:l);b(s:t@,r:r)");
        check.scribe.make(0);
        check.scribe.make(1);
        check.scribe.make(1);
        check.putText(1, 0, "\"".repeat(20));
        check.putText(2, 0, text);
        for (int i = 0; i < 24; i++) {
            check.scribe.add(0, i / 8, i < 23 ? 1 : 2);
        }
        return check;
    }

    private static void tooLong() {
        Check check = Check.of("rr(l:l,m:l,n:l,o:l);b(s:t@,r:r)");
        check.scribe.make(0);
        check.scribe.make(1);
        check.scribe.make(1);
        check.putText(1, 0, "\"".repeat(20));
        for (int i = 0; i < 23; i++) {
            check.scribe.add(0, i / 8, i < 22 ? 1 : 2);
        }
        check.putText(2, 0, "\"".repeat(19) + "&");
        String leaf = "<b s=\"" + "&quot;".repeat(20) + "\"/>";
        String want = "<rr><l>" + leaf.repeat(8) + "</l><m>" + leaf.repeat(8) + "</m><n>" + leaf.repeat(6)
                + "<b s=\"" + "&quot;".repeat(19) + "&amp;\"/></n><o/></rr>";
        Check.due("how long that is", want.length(), 3000);
        Check.due("3,000 signs", check.scribe.write(0, 3), 3000);
        Check.due("3,000 signs", check.written(), want);
        Check.due("sign(2999)", check.scribe.sign(2999), '>');
        Check.due("sign(3000)", check.scribe.sign(3000), GraphScribe.BAD);
        check.putText(2, 0, "\"".repeat(20));
        Check.due("3,001 signs", check.scribe.write(0, 3), GraphScribe.TOO_LONG);
        Check.due("what was written before", check.written(), want);
        Check.due("count(3)", check.scribe.count(3), 3000);
        Check.due("shorter by references", check.scribe.write(0, 2) > 0, true);
    }

    private static void whatHoldsFirst() {
        Check deep = nearlyFull("abcd");
        deep.scribe.set(2, 1, 0);
        deep.scribe.limit(2);
        Check.due("too deep behind 3,000 signs", deep.scribe.write(0, 3), GraphScribe.TOO_DEEP);
        Check full = nearlyFull("abcde");
        full.scribe.set(2, 1, 0);
        full.scribe.limit(2);
        Check.due("too deep behind 3,001 signs", full.scribe.write(0, 3), GraphScribe.TOO_LONG);
        Check late = nearlyFull("&&");
        late.scribe.set(1, 1, 0);
        late.scribe.limit(2);
        Check.due("too deep in the first of all", late.scribe.write(0, 3), GraphScribe.TOO_DEEP);
    }

    /** What would be millions of elements ends soon all the same. */
    private static void circlesAsTrees() {
        Check check = Check.of("a(l:l*,m:l,n:l,r:r)");
        check.scribe.make(0);
        check.scribe.limit(20);
        for (int i = 0; i < 8; i++) {
            check.scribe.add(0, 0, 0);
            check.scribe.add(0, 1, 0);
            check.scribe.add(0, 2, 0);
        }
        check.scribe.set(0, 3, 0);
        Check.due("a circle as a tree", check.scribe.write(0, 3), GraphScribe.TOO_DEEP);
        Check wide = Check.of("a(l:l*);b(l:l*);c(l:l*);d(l:l*);e()");
        for (int i = 0; i < 5; i++) {
            wide.scribe.make(i);
        }
        for (int i = 0; i < 4; i++) {
            for (int j = 0; j < 8; j++) {
                wide.scribe.add(i, 0, i + 1);
            }
        }
        Check.due("4,096 objects as a tree", wide.scribe.write(0, 3), GraphScribe.TOO_LONG);
        Check.due("512 objects as a tree", wide.scribe.write(1, 3), 7 + 8 * (7 + 8 * (7 + 8 * 4)));
    }

    private static void wrongOnes() {
        Check check = Check.of("a()");
        check.scribe.make(0);
        check.scribe.write(0, 0);
        int[] wrong = {-1, 4, -2, Integer.MIN_VALUE, Integer.MAX_VALUE};
        for (int w : wrong) {
            Check.due("mode " + w, check.scribe.write(0, w), GraphScribe.BAD);
            Check.due("root " + w, check.scribe.write(w, 0), GraphScribe.BAD);
        }
        Check.due("root 1", check.scribe.write(1, 0), GraphScribe.BAD);
        Check.due("what was written before", check.written(), "<a/>");
    }
}
