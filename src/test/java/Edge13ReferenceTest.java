/** The edges of promise 13 that are about references. A ^ marks the element that is told. */
public final class Edge13ReferenceTest {
    public static void main(String[] args) {
        thisAttributeAlone();
        noElements();
        noText();
        byId();
        idsThatLeadNowhere();
        byPath();
        pathsThatLeadNowhere();
        byWay();
        oneThingAtLeast();
        whatStandsBehind();
        waysThatLeadNowhere();
        upFromTheRoot();
        emptySteps();
        firstSteps();
        leadingZeros();
        theLikeOfThem();
        lastSteps();
        toElementsOfObjects();
        toReferences();
        toElementsBehind();
        toElementsAround();
        namesInLists();
        namesOfForbiddenClasses();
        inReferenceFields();
        behindAll();
        noReferenceAtTheRoot();
        Check.end();
    }

    /** A text with a reference of its root: in its list stand the objects 1, 2 and 3, and in this one 4. */
    private static String with(String reference) {
        return "<a id='12'><l><b/><a id='7'/><b><a/></b></l>^<r reference='" + reference + "'/></a>";
    }

    private static void leads(String reference, int object) {
        Check check = Edge.right(with(reference).replace("^", ""), 5);
        Check.due("where " + reference + " leads", check.scribe.value(1, 0, 2, 0), object);
    }

    private static void leadsNowhere(String... references) {
        for (String reference : references) {
            Edge.senseless(with(reference));
        }
    }

    /** "A reference has this attribute alone" */
    private static void thisAttributeAlone() {
        Edge.right("<a><r reference='/a'/></a>", 1);
        Edge.senseless("<a>^<r reference='/a' class='a'/></a>");
        Edge.senseless("<a>^<r class='a' reference='/a'/></a>");
        Edge.senseless("<a>^<r reference='/a' id='1'/></a>");
        Edge.senseless("<a>^<r reference='/a' q=''/></a>");
        Edge.senseless("<b>^<b m='1' reference='/b'/></b>");
        Edge.senseless("<a><l>^<a reference='/a' id='1'/></l></a>");
    }

    /** "no elements" */
    private static void noElements() {
        Edge.senseless("<a>^<r reference='/a'><n>1</n></r></a>");
        Edge.senseless("<a>^<r reference='/a'><q/></r></a>");
        Edge.senseless("<a><l>^<a reference='/a'><r reference='/a'/></a></l></a>");
    }

    /** "and no text (not even blanks)" */
    private static void noText() {
        Edge.right("<a><r reference='/a'></r></a>", 1);
        Edge.right("<a><r reference='/a'><!-- q --></r></a>", 1);
        Edge.right("<a><r reference='/a'><![CDATA[]]></r></a>", 1);
        Edge.senseless("<a>^<r reference='/a'> </r></a>");
        Edge.senseless("<a>^<r reference='/a'>\n</r></a>");
        Edge.senseless("<a>^<r reference='/a'>x</r></a>");
        Edge.senseless("<a>^<r reference='/a'>&#32;</r></a>");
        Edge.senseless("<a>^<r reference='/a'><![CDATA[ ]]></r></a>");
        Edge.senseless("<a>^<r reference='/a'><!-- --> <!-- --></r></a>");
    }

    /** "digits: the id" */
    private static void byId() {
        leads("12", 0);
        leads("7", 2);
        leads("&#55;", 2);
        Check check = Edge.right("<a id='9999'><l><a id='1000'/></l><r reference='9999'/></a>", 2);
        Check.due("the greatest id", check.scribe.value(1, 0, 2, 0), 0);
    }

    /** "digits: the id": another one leads nowhere. */
    private static void idsThatLeadNowhere() {
        leadsNowhere("1", "2", "0", "8", "70", "77", "07", "007", "0007", "00007", "7 ", " 7", "7a", "7/", "7.", "-7", "+7",
            "65543", "4294967303", "12121", "7[2]");
        Edge.senseless("<a>^<r reference='1'/></a>");
    }

    /** "/ first: a path from the root" */
    private static void byPath() {
        leads("/a", 0);
        leads("/a/l/b", 1);
        leads("/a/l/a", 2);
        leads("/a/l/b[2]", 3);
        leads("/a/l/b[2]/a", 4);
        leads("/&#97;/l/b", 1);
    }

    private static void pathsThatLeadNowhere() {
        leadsNowhere("/b", "/l/b", "/A", "/aa", "/a/b", "/a/q", "/a/l/b/a", "/a/l/q", "/a/l/B", "/a/l/b[3]", "/a[2]", "/a/l[2]/b",
            " /a", "/a ", "/ a", "/a /l/b", "/a/l/a/a", "/7", "/a/l/bb");
    }

    /** "else .. any number of times, then steps" */
    private static void byWay() {
        leads("..", 0);
        leads("../l/b", 1);
        leads("../l/a", 2);
        leads("../l/b[2]", 3);
        leads("../l/b[2]/a", 4);
        Check check = Edge.right("<a><l><a><l><a><r reference='../../../../..'/></a></l></a></l></a>", 3);
        Check.due("five times ..", check.scribe.value(1, 2, 2, 0), 0);
    }

    /** "one thing at least" */
    private static void oneThingAtLeast() {
        leadsNowhere("");
        Edge.senseless("<a><l>^<a reference=''/></l></a>");
    }

    /** What stands in the text behind a value is not of it. */
    private static void whatStandsBehind() {
        Edge.senseless("<a>^<r reference='.'/><s>./</s></a>");
        Edge.senseless("<a>^<r reference='.'/><s>.</s></a>");
        Edge.senseless("<a>^<r reference=''/><s>/a</s></a>");
        Edge.senseless("<a>^<r reference=''/><s>..</s></a>");
        Edge.senseless("<a id='1'>^<r reference=''/><n>1</n></a>");
        Edge.senseless("<a id='1'><l><a id='12'/></l>^<r reference='2'/><n>1</n></a>");
        Edge.senseless("<a><l><b/><b/></l>^<r reference='/a/l/b[2'/><s>]</s></a>");
        Check check = Edge.right("<a id='1'><l><a id='12'/></l><r reference='1'/><n>2</n></a>", 2);
        Check.due("reference", check.scribe.value(1, 0, 2, 0), 0);
        check = Edge.right("<a><l><b/><b/></l><r reference='/a/l/b'/><s>[2]</s></a>", 3);
        Check.due("reference", check.scribe.value(1, 0, 2, 0), 1);
        check = Edge.right("<a><l><a><r reference='..'/><s>/..</s></a></l></a>", 2);
        Check.due("reference", check.scribe.value(1, 1, 2, 0), 1);
    }

    private static void waysThatLeadNowhere() {
        leadsNowhere(".", "...", "....", "./..", "../.", "../l/b/..", "../l/../l/b", "..l/b", "a", "l/b", "r", "..a", ".. ", " ..",
            "..xl/b", ".. l/b", "...l/b", "..x", ".a", "./", ".//l/b", ".a/l/b", "a./l/b", "../l/q", "../q", "../b", "..[2]", "../l/b[3]", "/..", "/a/..", "/a/../a", "/../a", "/.");
    }

    /** "nor does .. of the root" */
    private static void upFromTheRoot() {
        leadsNowhere("../..", "../../..", "../../a", "../../../..", "../../a/l/b");
        Edge.senseless("<a><l>^<a reference='../../..'/></l></a>");
        Edge.right("<a><l><a reference='../..'/></l></a>", 1);
    }

    /** "(An empty step .. lead nowhere" */
    private static void emptySteps() {
        leadsNowhere("/", "//", "//a", "/a/", "/a//l/b", "/a/l//b", "/a/l/b/", "../", "..//l/b", "../l/b/", "../l//b", "/a/l/[2]",
            "../l/[2]", "/[2]");
    }

    /** "[1] .. lead nowhere" */
    private static void firstSteps() {
        leadsNowhere("/a[1]", "/a/l/b[1]", "../l/b[1]", "../l[1]/b", "/a/l/b[2]/a[1]", "/a[1]/l/b");
    }

    /** "[0], [01] and the like lead nowhere" */
    private static void leadingZeros() {
        leadsNowhere("/a/l/b[0]", "/a/l/b[00]", "/a/l/b[01]", "/a/l/b[02]", "/a/l/b[002]", "../l/b[0]", "../l/b[02]", "/a[0]");
    }

    /** "and the like lead nowhere" */
    private static void theLikeOfThem() {
        leadsNowhere("/a/l/b[]", "/a/l/b[", "/a/l/b]", "/a/l/b[2", "/a/l/b2]", "/a/l/b[2]]", "/a/l/b[[2]", "/a/l/b[2][2]",
            "/a/l/b[ 2]", "/a/l/b[2 ]", "/a/l/b [2]", "/a/l/b[2] ", "/a/l/b[2]b", "/a/l/b[-2]", "/a/l/b[+2]", "/a/l/b[a]", "/a/l/b[2a]",
            "/a/l/b[20]", "/a/l/b[258]", "/a/l/b[65538]", "/a/l/b[4294967298]", "/a/l/b[18446744073709551618]", "/a/l/b[2/a",
            "/a/l/b[2]a", "/a/l/b[2.]", "/a/l/b[1(]", "/a/l/b[1)]", "/a/l/b[2,]", "/a/l/b[/]", "/a/l/b[:]", "/a/l/b(2)");
    }

    /** The eighth of a list, and one behind it. */
    private static void lastSteps() {
        String text = "<b>" + "<a/>".repeat(7) + "<a><r class='a'/><l><a reference='/b/a[%]'/></l></a></b>";
        Check check = Edge.right(text.replace("%", "7"), 10);
        Check.due("the seventh", check.scribe.value(1, 8, 3, 0), 7);
        check = Edge.right(text.replace("%", "8"), 10);
        Check.due("the eighth", check.scribe.value(1, 8, 3, 0), 8);
        Edge.senseless(text.replace("%", "9").replace("<a ref", "^<a ref"));
    }

    /** "it leads to the element of an object" */
    private static void toElementsOfObjects() {
        Edge.senseless("<a><n>1</n>^<r reference='/a/n'/></a>");
        Edge.senseless("<a><s/>^<r reference='../s'/></a>");
        Edge.senseless("<a><l><a/></l>^<r reference='../l'/></a>");
        Edge.senseless("<a><l>^<a reference='..'/></l></a>");
        Edge.right("<a><r class='a'><l><a reference='../..'/></l></r></a>", 2);
    }

    /** "not a reference" */
    private static void toReferences() {
        Edge.senseless("<a><l><a reference='/a'/></l>^<r reference='/a/l/a'/></a>");
        Edge.senseless("<a><l><b/><b reference='../b'/>^<b reference='../b[2]'/></l></a>");
        Edge.senseless("<a>^<r reference='../r'/></a>");
        Edge.senseless("<a>^<r reference='/a/r'/></a>");
        Check check = Edge.right("<a><l><b/><b reference='../b'/><b/><b reference='../b[3]'/></l></a>", 3);
        Check.due("elements of references are counted in steps", State.cells(check.scribe, 1, 0, 3).toString(), "[1, 1, 2, 2]");
    }

    /** "that begins before it" */
    private static void toElementsBehind() {
        Edge.senseless("<a>^<r reference='/a/l/b'/><l><b/></l></a>");
        Edge.senseless("<a>^<r reference='1'/><l><b id='1'/></l></a>");
        Edge.senseless("<a>^<r reference='../l/b'/><l><b/></l></a>");
        Edge.senseless("<a><l>^<b reference='../b[2]'/><b/></l></a>");
        Edge.right("<a><l><b/></l><r reference='/a/l/b'/></a>", 2);
    }

    /** "that begins before it": those around it do. */
    private static void toElementsAround() {
        Check check = Edge.right("<a id='1'><l><a id='2'><r reference='1'/></a><a><r reference='..'/></a></l></a>", 3);
        Check.due("the root", check.scribe.value(1, 1, 2, 0), 0);
        Check.due("its parent", check.scribe.value(1, 2, 2, 0), 2);
    }

    /** "in a list it is named by that object's class" */
    private static void namesInLists() {
        Edge.right("<a><l><a reference='/a'/></l></a>", 1);
        Edge.right("<b><b reference='/b'/></b>", 1);
        Edge.right("<a><r class='b'/><l><b reference='/a/r'/></l></a>", 2);
        Edge.senseless("<a><l>^<b reference='/a'/></l></a>");
        Edge.senseless("<b>^<a reference='/b'/></b>");
        Edge.senseless("<a><l>^<q reference='/a'/></l></a>");
        Edge.senseless("<a><l>^<l reference='/a'/></l></a>");
        Edge.senseless("<a><r class='b'/><l>^<r reference='/a/r'/></l></a>");
        Edge.senseless("<b>^<q reference='/b'/></b>");
    }

    /** "(not a forbidden one)" */
    private static void namesOfForbiddenClasses() {
        Edge.senseless("<a><l>^<c reference='/a'/></l></a>");
        Edge.senseless("<b>^<c reference='/b'/></b>");
        Check check = Edge.full();
        check.scribe.forbid(2, false);
        Check.due("not forbidden any more", check.readText("<b><c/><c reference='../c'/></b>"), 2);
    }

    /** A reference in a reference field is named by the field, whatever its object's class is. */
    private static void inReferenceFields() {
        Check check = Edge.right("<a><l><b/></l><r reference='../l/b'/></a>", 2);
        Check.due("the reference", check.scribe.value(1, 0, 2, 0), 1);
        Edge.senseless("<a>^<q reference='/a'/></a>");
        Edge.senseless("<a>^<a reference='/a'/></a>");
        Edge.senseless("<a><r reference='/a'/>^<r reference='/a'/></a>");
    }

    /** "of a reference behind all" */
    private static void behindAll() {
        Edge.senseless("<a><r reference='q'/>^<q/></a>");
        Edge.senseless("<a><r reference='1'/><l>^<q/></l></a>");
        Edge.senseless("<a><l><a reference='/q'/><a>^<n/></a></l></a>");
        Edge.senseless("<a><r reference='/a'> </r>^<n>x</n></a>");
        Edge.senseless("<a><r reference='/a' q=''/>^<n>x</n></a>");
        Edge.senseless("<a><r reference='/a'><q/></r>^<n>x</n></a>");
        Edge.senseless("<a><l>^<a reference='q'/><a reference='r'/></l><r reference='s'/></a>");
        Edge.senseless("<a><l><a reference='/a'/>^<a reference='r'/></l><r reference='s'/></a>");
        Edge.senseless("<a><l><b/><b reference='../b'/></l>^<r reference='s'/></a>");
    }

    /** A root is an object, and no reference. */
    private static void noReferenceAtTheRoot() {
        Edge.senseless("^<a reference='/a'/>");
        Edge.senseless("^<a reference='1' id='1'/>");
        Edge.senseless("^<a reference='..'/>");
    }
}
