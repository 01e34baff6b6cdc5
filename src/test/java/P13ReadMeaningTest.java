/** Promise 13: the objects that a text means, and the first element without meaning. */
public final class P13ReadMeaningTest {
    private static final String CLASSES = "a(x:i,s:t,l:l,r:r);b(n:i@,t:t@,k:l*,m:l);c$_(q:r);d(a:i)";

    public static void main(String[] args) {
        roots();
        numbers();
        texts();
        attributes();
        elements();
        lists();
        implicitLists();
        referenceFields();
        ids();
        byIds();
        byPaths();
        byWays();
        namesOfReferences();
        contentsOfReferences();
        mostObjects();
        order();
        whatWasRead();
        Check.end();
    }

    private static Check told(String text, int want) {
        Check check = Check.of(CLASSES);
        Check.due("read of " + text, check.readText(text), want);
        return check;
    }

    /** The element that begins at the n-th &lt; (from 0) has no meaning. */
    private static void senseless(String text, int n) {
        int place = -1;
        for (int i = 0; i <= n; i++) {
            place = text.indexOf('<', place + 1);
        }
        told(text, GraphScribe.MEANING - place);
    }

    private static void senselessReference(String text) {
        told(text, GraphScribe.MEANING - text.indexOf("<r "));
    }

    private static void roots() {
        told("<a/>", 1);
        told("<c_-__/>", 1);
        senseless("<q/>", 0);
        senseless("  <q/>", 0);
        senseless("<aa/>", 0);
        senseless("<A/>", 0);
        senseless("<x/>", 0);
        senseless("<c__-/>", 0);
        senseless("<a class='a'/>", 0);
        senseless("<a reference='/a'/>", 0);
        senseless("<a reference='1'/>", 0);
        senseless("<q><x/></q>", 0);
    }

    private static void numbers() {
        String[] right = {"0", "1", "-1", "10", "2147483647", "-2147483648", "0000000000", "0000000001", "-0000000001",
            "-0", "00"};
        for (String number : right) {
            Check check = told("<a><x>" + number + "</x></a>", 1);
            Check.due("number " + number, check.scribe.value(1, 0, 0, 0), Long.parseLong(number));
            check = told("<b n='" + number + "'/>", 1);
            Check.due("attribute " + number, check.scribe.value(1, 0, 0, 0), Long.parseLong(number));
        }
        String[] wrong = {"", "-", " 1", "1 ", "+1", "--1", "1-", "1a", "a", "0x1", "1.0", "2147483648", "-2147483649",
            "9999999999", "00000000001", "-00000000001", "10000000000", "4294967296", "4294967297", "1 2", "/", ":"};
        for (String number : wrong) {
            senseless("<a><x>" + number + "</x></a>", 1);
            senseless("<b n='" + number + "'/>", 0);
        }
        senseless("<a><x/></a>", 1);
        Check check = told("<a><x>&#49;<!-- 7 -->2<![CDATA[3]]></x></a>", 1);
        Check.due("number in pieces", check.scribe.value(1, 0, 0, 0), 123);
        senseless("<a><x>1<x/></x></a>", 1);
        senseless("<a><x>1<q/></x></a>", 1);
        senseless("<a><x n='1'>1</x></a>", 1);
        senseless("<a><x id='1'>1</x></a>", 1);
        senseless("<a><x class='a'>1</x></a>", 1);
        senseless("<a><x reference='/a'/></a>", 1);
    }

    private static void texts() {
        String[] right = {"", " ", "a", " ~", "12345678901234567890", "a  b"};
        for (String text : right) {
            Check check = told("<a><s>" + text + "</s></a>", 1);
            Check.due("text " + text, check.textOf(1, 0, 1), text);
            check = told("<b t='" + text + "'/>", 1);
            Check.due("attribute " + text, check.textOf(1, 0, 1), text);
        }
        String[] wrong = {"123456789012345678901", "\t", "a\nb", "\r", "&#9;", "a&#10;", "&#13;"};
        for (String text : wrong) {
            senseless("<a><s>" + text + "</s></a>", 1);
            senseless("<b t='" + text + "'/>", 0);
        }
        told("<a><s/></a>", 1);
        Check check = told("<a><s>&lt;&lt;&lt;&lt;&lt;&lt;&lt;&lt;&lt;&lt;&lt;&lt;&lt;&lt;&lt;&lt;&lt;&lt;&lt;&lt;</s></a>", 1);
        Check.due("20 signs by &", check.textOf(1, 0, 1), "<<<<<<<<<<<<<<<<<<<<");
        check = told("<a><s>1<!-- x -->2<!----> <![CDATA[<3>]]></s></a>", 1);
        Check.due("text in pieces", check.textOf(1, 0, 1), "12 <3>");
        senseless("<a><s>q<x/></s></a>", 1);
        senseless("<a><s t='q'>q</s></a>", 1);
        senseless("<a><s reference='/a'/></a>", 1);
    }

    private static void attributes() {
        told("<b/>", 1);
        told("<b n='1'/>", 1);
        told("<b t='1' id='3' n='2'/>", 1);
        senseless("<b x='1'/>", 0);
        senseless("<b k='1'/>", 0);
        senseless("<b m='1'/>", 0);
        senseless("<a x='1'/>", 0);
        senseless("<a s='1'/>", 0);
        senseless("<b N='1'/>", 0);
        senseless("<b nn='1'/>", 0);
        senseless("<b class='b'/>", 0);
        senseless("<b n='1' q='1'/>", 0);
        senseless("<b jd='1'/>", 0);
        senseless("<b ie='1'/>", 0);
        senseless("<b i='1'/>", 0);
        senseless("<b idd='1'/>", 0);
        senseless("<b Id='1'/>", 0);
        senseless("<b q='1' n='1'/>", 0);
        senseless("<b><n>1</n></b>", 1);
        senseless("<b><t>1</t></b>", 1);
        Check check = told("<b t='7' n='8'/>", 1);
        Check.due("number", check.scribe.value(1, 0, 0, 0), 8);
        Check.due("text", check.textOf(1, 0, 1), "7");
    }

    private static void elements() {
        told("<a><s>q</s><x>1</x></a>", 1);
        told("<a><r class='a'/><l/><s/><x>1</x></a>", 2);
        told("<a>\n<x>1</x> <s/>\t</a>", 1);
        senseless("<a><x>1</x><x>1</x></a>", 3);
        senseless("<a><s/><x>1</x><s/></a>", 4);
        senseless("<a><l/><l/></a>", 2);
        senseless("<a><r class='a'/><r class='a'/></a>", 2);
        senseless("<a><q/></a>", 1);
        senseless("<a><a/></a>", 1);
        senseless("<a><X>1</X></a>", 1);
        senseless("<a><xx>1</xx></a>", 1);
        senseless("<a>q<x>1</x></a>", 0);
        senseless("<a><x>1</x>q</a>", 0);
        senseless("<a><x>1</x>&#113;</a>", 0);
        senseless("<a><x>1</x><![CDATA[q]]></a>", 0);
        told("<a>&#32;<x>1</x><![CDATA[ ]]><!-- q --></a>", 1);
        told("<a><l><d><a>4</a></d></l></a>", 2);
    }

    private static void lists() {
        told("<a><l></l></a>", 1);
        told("<a><l> <a/>\n<b/><c_-__/> </l></a>", 4);
        told("<a><l><!-- q --><a/><![CDATA[\t]]></l></a>", 2);
        senseless("<a><l>q</l></a>", 1);
        senseless("<a><l><a/>q</l></a>", 1);
        senseless("<a><l q='1'/></a>", 1);
        senseless("<a><l class='a'/></a>", 1);
        senseless("<a><l id='1'/></a>", 1);
        senseless("<a><l reference='/a'/></a>", 1);
        senseless("<a><l><q/></l></a>", 2);
        senseless("<a><l><x>1</x></l></a>", 2);
        senseless("<a><l><a class='a'/></l></a>", 2);
        senseless("<a><l><a/><l/></l></a>", 3);
        told("<a><l>" + "<b/>".repeat(8) + "</l></a>", 9);
        senseless("<a><l>" + "<b/>".repeat(9) + "</l></a>", 10);
        senseless("<a><l>" + "<b/>".repeat(8) + "<b reference='../b'/></l></a>", 10);
        senseless("<a><l><b/>" + "<b reference='../b'/>".repeat(8) + "</l></a>", 10);
        Check check = told("<a><l><b/>" + "<b reference='../b'/>".repeat(6) + "<a/></l></a>", 3);
        int[] want = {1, 1, 1, 1, 1, 1, 1, 2, GraphScribe.NONE};
        for (int i = 0; i < want.length; i++) {
            Check.due("object " + i, check.scribe.value(1, 0, 2, i), want[i]);
        }
    }

    private static void implicitLists() {
        Check check = told("<b><a/><m><a/></m><b/></b>", 4);
        Check.due("object 0", check.scribe.value(1, 0, 2, 0), 1);
        Check.due("object 1", check.scribe.value(1, 0, 2, 1), 3);
        Check.due("object 2", check.scribe.value(1, 0, 2, 2), GraphScribe.NONE);
        Check.due("the other list", check.scribe.value(1, 0, 3, 0), 2);
        told("<b> <a/> </b>", 2);
        senseless("<b><a/>q</b>", 0);
        senseless("<b><k/></b>", 1);
        senseless("<b><k><a/></k></b>", 1);
        senseless("<b><q/></b>", 1);
        senseless("<b><a class='a'/></b>", 1);
        senseless("<a><b/></a>", 1);
        told("<b>" + "<a/>".repeat(8) + "</b>", 9);
        senseless("<b>" + "<a/>".repeat(9) + "</b>", 9);
        senseless("<b>" + "<a/>".repeat(4) + "<m/>" + "<a/>".repeat(5) + "</b>", 10);
        told("<b>" + "<a/>".repeat(8) + "<m>" + "<a/>".repeat(8) + "</m></b>", 17);
        check = told("<b><a/><a reference='../a'/><b reference='/b'/></b>", 2);
        Check.due("object 0", check.scribe.value(1, 0, 2, 0), 1);
        Check.due("object 1", check.scribe.value(1, 0, 2, 1), 1);
        Check.due("object 2", check.scribe.value(1, 0, 2, 2), 0);
    }

    private static void referenceFields() {
        told("<a><r class='a'/></a>", 2);
        told("<a><r class=\"c_-__\"><q class='b' n='3'/></r></a>", 3);
        senseless("<a><r/></a>", 1);
        senseless("<a><r>q</r></a>", 1);
        senseless("<a><r class=''/></a>", 1);
        senseless("<a><r class='q'/></a>", 1);
        senseless("<a><r class='r'/></a>", 1);
        senseless("<a><r class=' a'/></a>", 1);
        senseless("<a><r class='c$_'/></a>", 1);
        senseless("<a><r class='a' n='1'/></a>", 1);
        senseless("<a><r id='1'/></a>", 1);
        senseless("<a><r class='a'>q</r></a>", 1);
        senseless("<a><a class='a'/></a>", 1);
        told("<a><r class='b' n='1' id='2' t='x'/></a>", 2);
        told("<a><r n='1' class='b'/></a>", 2);
        told("<a><r class='&#98;'/></a>", 2);
        senseless("<a><r class='a'><r/></r></a>", 2);
        senseless("<a><r blass='a'/></a>", 1);
        senseless("<a><r clasp='a'/></a>", 1);
        senseless("<a><r clas='a'/></a>", 1);
        senseless("<a><r classs='a'/></a>", 1);
        senseless("<a><r class='a' clasp='a'/></a>", 1);
        senseless("<a><r seference='/a'/></a>", 1);
        senseless("<a><r referencf='/a'/></a>", 1);
    }

    private static void ids() {
        String[] right = {"1", "9", "10", "9999", "1000", "&#49;"};
        for (String id : right) {
            told("<a id='" + id + "'/>", 1);
        }
        String[] wrong = {"", "0", "01", "00", "10000", "a", "1a", "-1", "+1", " 1", "1 ", "0x1", "/", ":"};
        for (String id : wrong) {
            senseless("<a id='" + id + "'/>", 0);
        }
        told("<a id='1'><l><a id='2'/><b id='3'/></l></a>", 3);
        senseless("<a id='1'><l><a id='2'/><b id='1'/></l></a>", 3);
        senseless("<a id='7'><r class='a' id='7'/></a>", 1);
        senseless("<a><l><a id='12'/><a id='12'/></l></a>", 3);
        told("<a><l><a id='12'/><a id='1'/><a/></l></a>", 4);
    }

    private static void byIds() {
        Check check = told("<a id='5'><l><b id='17'/><b reference='17'/><a reference='5'/></l><r reference='17'/></a>", 2);
        Check.due("object 0", check.scribe.value(1, 0, 2, 0), 1);
        Check.due("object 1", check.scribe.value(1, 0, 2, 1), 1);
        Check.due("object 2", check.scribe.value(1, 0, 2, 2), 0);
        Check.due("reference", check.scribe.value(1, 0, 3, 0), 1);
        String[] wrong = {"4", "05", "0", "55", "5 ", " 5", "5a", "00005", "000005", "5.", "55555", "-5", ""};
        for (String id : wrong) {
            senseless("<a id='5'><r reference='" + id + "'/></a>", 1);
        }
        told("<a id='5'><r reference='&#53;'/></a>", 1);
        senseless("<a><r reference='1'/></a>", 1);
        senseless("<a><r reference='1'/><l><a id='1'/></l></a>", 1);
        senseless("<a><l><a reference='1'/><a id='1'/></l></a>", 2);
        told("<a><l><a id='1'/><a reference='1'/></l></a>", 2);
        told("<a><l><a id='1'><r reference='1'/></a></l></a>", 2);
    }

    private static void byPaths() {
        String text = "<a><l><b/><a/><b><m><a/><a/></m></b></l><r reference='%'/></a>";
        String[] right = {"/a", "0", "/a/l/b", "1", "/a/l/a", "2", "/a/l/b[2]", "3", "/a/l/b[2]/m/a", "4",
            "/a/l/b[2]/m/a[2]", "5"};
        for (int i = 0; i < right.length; i += 2) {
            Check check = told(text.replace("%", right[i]), 6);
            Check.due("reference " + right[i], check.scribe.value(1, 0, 3, 0), Integer.parseInt(right[i + 1]));
        }
        String[] wrong = {"/", "//a", "/a/", "/a//l", "/b", "/a[1]", "/a[2]", "/a/l", "/a/r", "/a/l/b[1]", "/a/l/b[0]",
            "/a/l/b[01]", "/a/l/b[02]", "/a/l/b[3]", "/a/l/b[]", "/a/l/b[2", "/a/l/b2]", "/a/l/b[2]]", "/a/l/b[[2]",
            "/a/l/b[ 2]", "/a/l/b [2]", "/a/l/b[2] ", "/a/l/b[2]x", "/a/l/b[-2]", "/a/l/b[+2]", "/a/l/b[a]", "/a/l/b[2a]",
            "/a/l/c", "/a/l/b/m", "/a/l/b/m/a", "/a/..", "/a/l/../l/b", "/a/l/b[2]/m/a[3]", "/a/.", "/..", "/a/l/[2]",
            "/a/b", "/l/b", "/a /l/b", " /a", "/a/l/b[2]/m", "/a/x", "/a/l/b[4294967298]", "/a/l/b[2][2]", "/a/l/B",
            "/a/l/b[2]/", "/a/l/bb", "/a/l/b[12]", "/a/l/b[2;", "/1", "/a/l/b[2/m/a"};
        for (String path : wrong) {
            senselessReference(text.replace("%", path));
        }
        senseless("<a><r reference='/a/l/b'/><l><b/></l></a>", 1);
        senseless("<a><l><b reference='/a/l/b'/></l></a>", 2);
        senseless("<a><l><b reference='/a/l/b[2]'/><b/></l></a>", 2);
        senseless("<a><l><b/><b reference='../b'/><b reference='../b[2]'/></l></a>", 4);
        told("<a><l><b/><b reference='../b'/><b/><b reference='../b[3]'/></l></a>", 3);
        senseless("<a><x>1</x><r reference='/a/x'/></a>", 3);
        senseless("<a><l/><r reference='/a/l'/></a>", 2);
        told("<a><r reference='/&#97;'/></a>", 1);
        StringBuilder many = new StringBuilder("<b>");
        for (int i = 0; i < 8; i++) {
            many.append("<a/>");
        }
        Check check = told(many + "<m><a reference='/b/a[8]'/></m></b>", 9);
        Check.due("the eighth", check.scribe.value(1, 0, 3, 0), 8);
    }

    private static void byWays() {
        Check check = told("<a><l><b/><a><r reference='../../b'/><l><a reference='..%'/></l></a></l></a>"
                .replace("%", "/.."), 3);
        Check.due("a sibling", check.scribe.value(1, 2, 3, 0), 1);
        Check.due("around it", check.scribe.value(1, 2, 2, 0), 2);
        String text = "<a><l><b/><b><m><a/></m></b></l><r reference='%'/></a>";
        String[] right = {"..", "0", "../l/b", "1", "../l/b[2]", "2", "../l/b[2]/m/a", "3"};
        for (int i = 0; i < right.length; i += 2) {
            check = told(text.replace("%", right[i]), 4);
            Check.due("reference " + right[i], check.scribe.value(1, 0, 3, 0), Integer.parseInt(right[i + 1]));
        }
        String[] wrong = {"", ".", "./..", "../", "../.", "../..", "../../a", "../../..", "..//l/b", "l/b", "b", "r", "../r",
            "../l", "../l/b/..", "../l/../l/b", "..l/b", "...", ".. ", " ..", "../l/b[1]", "../l/b[0]", "../l/b[02]",
            "../l/b[3]", "../l/b/", "a", "a/l/b", "../b", "../a", "..[2]", "../..[2]", "../l[2]/b", "../l/", "x", "..."};
        for (String way : wrong) {
            senselessReference(text.replace("%", way));
        }
        senseless("<a><r reference='../l/b'/><l><b/></l></a>", 1);
        senseless("<a><l><b reference='..'/></l></a>", 2);
        senseless("<a><l><b reference='../b[2]'/><b/></l></a>", 2);
    }

    private static void namesOfReferences() {
        senseless("<a><l><b reference='/a'/></l></a>", 2);
        told("<a><l><a reference='/a'/></l></a>", 1);
        senseless("<a><l><q reference='/a'/></l></a>", 2);
        senseless("<b><a reference='/b'/></b>", 1);
        told("<b><b reference='/b'/></b>", 1);
        senseless("<b><q reference='/b'/></b>", 1);
        senseless("<b><k reference='/b'/></b>", 1);
        senseless("<a><q reference='/a'/></a>", 1);
        senseless("<a><a reference='/a'/></a>", 1);
        told("<a><r reference='/a'/></a>", 1);
        senseless("<a><r reference='/a'/><r reference='/a'/></a>", 2);
        senseless("<a><r class='a'/><r reference='/a'/></a>", 2);
        senseless("<a><r reference='/a'/><r class='a'/></a>", 2);
        told("<c_-__><q class='a'><l><c_-__ reference='/c_-__'/></l></q></c_-__>", 2);
    }

    private static void contentsOfReferences() {
        told("<a><r reference='/a'></r></a>", 1);
        told("<a><r reference='/a'><!-- q --></r></a>", 1);
        told("<a><r reference='/a'><![CDATA[]]></r></a>", 1);
        senseless("<a><r reference='/a'> </r></a>", 1);
        senseless("<a><r reference='/a'>q</r></a>", 1);
        senseless("<a><r reference='/a'>&#32;</r></a>", 1);
        senseless("<a><r reference='/a'><![CDATA[ ]]></r></a>", 1);
        senseless("<a><r reference='/a'><x>1</x></r></a>", 1);
        senseless("<a><r reference='/a'><q/></r></a>", 1);
        senseless("<a><r reference='/a'><q><q/></q></r></a>", 1);
        senseless("<a><r reference='/a' class='a'/></a>", 1);
        senseless("<a><r class='a' reference='/a'/></a>", 1);
        senseless("<a><r reference='/a' id='1'/></a>", 1);
        senseless("<a><r reference='/a' q='1'/></a>", 1);
        senseless("<b><b n='1' reference='/b'/></b>", 1);
        senseless("<a><l><a id='1'/><a id='2' reference='1'/></l></a>", 3);
    }

    private static void mostObjects() {
        String eight = "<a/>".repeat(8);
        String text = "<b>" + "<b>" + eight + "</b><b>" + eight + "</b><b>" + eight + "</b>%</b>";
        told(text.replace("%", ""), 28);
        told(text.replace("%", "<a/><a/>"), 30);
        told(text.replace("%", "<a/><a/><a reference='../a'/>"), 30);
        String tooMany = text.replace("%", "<a/><a/><a/>");
        told(tooMany, GraphScribe.MEANING - tooMany.lastIndexOf("<a/>"));
        String byField = text.replace("%", "<a/><a><r class='b'/></a>");
        told(byField, GraphScribe.MEANING - byField.lastIndexOf("<r"));
        String deep = text.replace("%", "<b><a/><m><a/><a/></m></b>");
        told(deep, GraphScribe.MEANING - deep.lastIndexOf("<m><a/>") - 3);
    }

    /** Of two elements without meaning the first is told, and references come behind all. */
    private static void order() {
        senseless("<a><x>q</x><q/></a>", 1);
        senseless("<a>q<x>q</x></a>", 0);
        senseless("<a><l q='1'><q/></l></a>", 1);
        senseless("<a><l><a><x/></a></l><q/></a>", 3);
        senseless("<a><r reference='q'/><q/></a>", 2);
        senseless("<a><r reference='q'>q</r><x>q</x></a>", 3);
        senseless("<a><r reference='q'><q/></r><x>q</x></a>", 4);
        senseless("<a><r reference='/a'/><l><a reference='q'/><a reference='q'/></l></a>", 3);
        senseless("<a><l><b reference='/a'/></l><r reference='q'/></a>", 2);
        senseless("<a><l><a reference='q'/><b><q/></b></l></a>", 4);
        senseless("<a><r reference='/a' id='1'/><l><q/></l></a>", 3);
        told("<a><x>q</x></b>", -14);
    }

    private static void whatWasRead() {
        Check check = told("<b n='-3' t='&lt;'><a><x>7</x><s>u</s><r class='c_-__'><q reference='../..'/></r></a>"
                + "<m><b/><a reference='/b/a'/></m></b>", 4);
        Scribe scribe = check.scribe;
        int[] kinds = {1, 0, 2, 1};
        for (int i = 0; i < kinds.length; i++) {
            Check.due("kind(1, " + i + ")", scribe.kind(1, i), kinds[i]);
        }
        Check.due("n", scribe.value(1, 0, 0, 0), -3);
        Check.due("t", check.textOf(1, 0, 1), "<");
        Check.due("k", scribe.value(1, 0, 2, 0), 1);
        Check.due("m 0", scribe.value(1, 0, 3, 0), 3);
        Check.due("m 1", scribe.value(1, 0, 3, 1), 1);
        Check.due("x", scribe.value(1, 1, 0, 0), 7);
        Check.due("s", check.textOf(1, 1, 1), "u");
        Check.due("l", scribe.value(1, 1, 2, 0), GraphScribe.NONE);
        Check.due("r", scribe.value(1, 1, 3, 0), 2);
        Check.due("q", scribe.value(1, 2, 0, 0), 1);
        Check.due("n at first", scribe.value(1, 3, 0, 0), 0);
        Check.due("t at first", scribe.value(1, 3, 1, 0), GraphScribe.NONE);
        Check.due("read again", check.readText("<a/>"), 1);
        Check.due("x at first", scribe.value(1, 0, 0, 0), 0);
        Check.due("s at first", scribe.value(1, 0, 1, 0), GraphScribe.NONE);
        Check.due("l at first", scribe.value(1, 0, 2, 0), GraphScribe.NONE);
        Check.due("r at first", scribe.value(1, 0, 3, 0), GraphScribe.NONE);
    }
}
