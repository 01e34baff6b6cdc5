/** The edges of promise 13 and of MEANING, but for references. A ^ marks the element that is told. */
public final class Edge13MeaningTest {
    private static final String EIGHT = "<a/>".repeat(8);

    public static void main(String[] args) {
        namesOfRoots();
        namesInLists();
        classOfReferenceFields();
        classOfOthers();
        digitsOfIds();
        idsThatOthersHave();
        idsOfOthers();
        attributes();
        elements();
        fieldsThatThereWere();
        implicitLists();
        blanksAlone();
        ninthOfList();
        ninthOfImplicitList();
        mostObjects();
        object31();
        comments();
        signsByAmpersandAndCdata();
        digitsOfNumbers();
        greatestAndLeastNumbers();
        otherNumbers();
        signsOfTexts();
        attributesOfOthers();
        elementsInOthers();
        whatIsNotThere();
        forbiddenClasses();
        parentsBeforeChildren();
        firstInOrder();
        orderOfBeginning();
        Check.end();
    }

    /** "the root and objects in lists are named by their classes" */
    private static void namesOfRoots() {
        Edge.right("<a/>", 1);
        Edge.right("<b/>", 1);
        Edge.senseless("^<n/>");
        Edge.senseless("^<A/>");
        Edge.senseless("^<aa/>");
        Edge.senseless("  ^<q/>");
        Check check = Check.of("ab()");
        Check.due("a part of a name", check.readText("<a/>"), -10001);
        Check.due("the name", check.readText("<ab/>"), 1);
    }

    /** "the root and objects in lists are named by their classes" */
    private static void namesInLists() {
        Edge.right("<a><l><a/><b/></l></a>", 3);
        Edge.senseless("<a><l><a/>^<q/></l></a>");
        Edge.senseless("<a><l>^<l/></l></a>");
        Edge.senseless("<a><l>^<n>1</n></l></a>");
        Edge.senseless("<a><l><b/>^<B/></l></a>");
    }

    /** "the element of a reference field by the field, its class is its attribute class" */
    private static void classOfReferenceFields() {
        Edge.right("<a><r class='a'/></a>", 2);
        Edge.right("<a><r class='b' m='1'/></a>", 2);
        Edge.senseless("<a>^<r/></a>");
        Edge.senseless("<a>^<r class=''/></a>");
        Edge.senseless("<a>^<r class='q'/></a>");
        Edge.senseless("<a>^<r class='A'/></a>");
        Edge.senseless("<a>^<r class='a '/></a>");
        Edge.senseless("<a>^<r class='r'/></a>");
        Edge.senseless("<a>^<r Class='a'/></a>");
        Edge.senseless("<a>^<a/></a>");
    }

    /** "(which none other has)" */
    private static void classOfOthers() {
        Edge.senseless("^<a class='a'/>");
        Edge.senseless("<a><l>^<a class='a'/></l></a>");
        Edge.senseless("<b>^<b class='b'/></b>");
        Edge.senseless("<a>^<n class='a'>1</n></a>");
        Edge.senseless("<a>^<s class='a'/></a>");
        Edge.senseless("<a>^<l class='a'/></a>");
    }

    /** "id (a number of 1 to 4 digits, 0 not first" */
    private static void digitsOfIds() {
        String[] right = {"1", "9", "10", "99", "100", "999", "1000", "9999"};
        for (String id : right) {
            Edge.right("<a id='" + id + "'/>", 1);
        }
        String[] wrong = {"", "0", "00", "01", "0001", "10000", "99999", "00001", "a", "1a", "a1", "-1", "+1", " 1", "1 ", "1.",
            "/", ":", "1/", "1:", "65537", "4294967297"};
        for (String id : wrong) {
            Edge.senseless("^<a id='" + id + "'/>");
        }
    }

    /** "that no element before has" */
    private static void idsThatOthersHave() {
        Edge.right("<a id='1'><l><a id='11'/><b id='111'/><b/></l></a>", 4);
        Edge.senseless("<a id='1'><l>^<a id='1'/></l></a>");
        Edge.senseless("<a><l><a id='7'/><b id='8'/>^<a id='7'/></l></a>");
        Edge.senseless("<a id='1'>^<r class='b' id='1'/></a>");
        Edge.senseless("<a><l><b id='9999'/></l>^<r class='b' id='9999'/></a>");
        Check check = Edge.right("<a id='5'/>", 1);
        Check.due("one that an element of the text before had", check.readText("<a id='5'/>"), 1);
    }

    /** An id is of an object's element alone. */
    private static void idsOfOthers() {
        Edge.senseless("<a>^<n id='1'>1</n></a>");
        Edge.senseless("<a>^<s id='1'/></a>");
        Edge.senseless("<a>^<l id='1'/></a>");
        Edge.senseless("^<a ID='1'/>");
        Edge.senseless("^<a i='1'/>");
        Edge.senseless("^<a idd='1'/>");
    }

    /** "the fields of its class that are attributes" */
    private static void attributes() {
        Check check = Edge.right("<b u='x' m='-1'/>", 1);
        Check.due("number", check.scribe.value(1, 0, 0, 0), -1);
        Check.due("text", check.textOf(1, 0, 1), "x");
        Edge.senseless("^<b q='1'/>");
        Edge.senseless("^<b k=''/>");
        Edge.senseless("^<b M='1'/>");
        Edge.senseless("^<b mm='1'/>");
        Edge.senseless("^<a n='1'/>");
        Edge.senseless("^<a s=''/>");
        Edge.senseless("^<a m='1'/>");
        Edge.senseless("<a><l>^<b m='1' u='' q=''/></l></a>");
        Edge.senseless("<a>^<r class='a' m='1'/></a>");
    }

    /** "elements for its other fields"; "(an element that is none of these .. has no meaning itself" */
    private static void elements() {
        Edge.right("<a><l/><s/><n>1</n></a>", 1);
        Edge.senseless("<a>^<q/></a>");
        Edge.senseless("<a><n>1</n>^<q/></a>");
        Edge.senseless("<a>^<N>1</N></a>");
        Edge.senseless("<a>^<nn>1</nn></a>");
        Edge.senseless("<a>^<b/></a>");
        Edge.senseless("<b>^<m>1</m></b>");
        Edge.senseless("<b>^<u/></b>");
        Edge.senseless("<a><l><a>^<q/></a></l></a>");
    }

    /** "each once at most"; "or for a field that there was" */
    private static void fieldsThatThereWere() {
        Edge.senseless("<a><n>1</n>^<n>1</n></a>");
        Edge.senseless("<a><s/>^<s/></a>");
        Edge.senseless("<a><l/>^<l/></a>");
        Edge.senseless("<a><l><a/></l><n>1</n>^<l><a/></l></a>");
        Edge.senseless("<a><r class='a'/>^<r class='a'/></a>");
        Edge.right("<a><n>1</n><r class='a'><n>2</n></r></a>", 2);
        Edge.right("<a><l><a><n>1</n></a><a><n>2</n></a></l><n>3</n></a>", 3);
    }

    /** "elements of classes in an implicit list" */
    private static void implicitLists() {
        Edge.right("<b/>", 1);
        Check check = Edge.right("<b><a/><b/><a/></b>", 4);
        Check.due("the list", State.cells(check.scribe, 1, 0, 2).toString(), "[1, 2, 3]");
        Edge.senseless("<b>^<k/></b>");
        Edge.senseless("<b>^<k><a/></k></b>");
        Edge.senseless("<b><a/>^<q/></b>");
        Edge.senseless("<b><a/>^<n>1</n></b>");
    }

    /** "around these blanks alone" */
    private static void blanksAlone() {
        Edge.right("<a> \t\n\r<n>1</n>\n</a>", 1);
        Edge.right("<a>\n<l>\t<a> </a>\r</l></a>", 2);
        Edge.right("<b> <a/> </b>", 2);
        Edge.senseless("^<a>x</a>");
        Edge.senseless("^<a>x<n>1</n></a>");
        Edge.senseless("^<a><n>1</n>x</a>");
        Edge.senseless("^<a><n>1</n> ! <s/></a>");
        Edge.senseless("<a>^<l>x</l></a>");
        Edge.senseless("<a>^<l><a/>x</l></a>");
        Edge.senseless("^<b><a/>~</b>");
        Edge.senseless("<a>^<r class='a'>x</r></a>");
    }

    /** "nor has the ninth of a list"; "8 in a list" */
    private static void ninthOfList() {
        Check check = Edge.right("<a><l>" + EIGHT + "</l></a>", 9);
        Check.due("the list", State.cells(check.scribe, 1, 0, 3).toString(), "[1, 2, 3, 4, 5, 6, 7, 8]");
        Edge.senseless("<a><l>" + EIGHT + "^<a/></l></a>");
        Edge.senseless("<a><l>" + EIGHT + "^<b><q/></b><q/></l></a>");
        Edge.senseless("<a><l>" + EIGHT + "^<a reference='/a'/></l></a>");
    }

    /** "nor has the ninth of a list": of an implicit one, too, whatever is between them */
    private static void ninthOfImplicitList() {
        Edge.right("<b>" + EIGHT + "</b>", 9);
        Edge.senseless("<b>" + EIGHT + "^<a/></b>");
        Edge.senseless("<b><a/> " + EIGHT.substring(4) + " <!-- -->^<b/></b>");
        Edge.right("<b>" + EIGHT.substring(4) + "<b>" + EIGHT + "</b></b>", 17);
    }

    /** "At most 30 objects" */
    private static void mostObjects() {
        Check check = Edge.right("<b><b>" + EIGHT + "</b><b>" + EIGHT + "</b><b>" + EIGHT + "</b><a/><a/></b>", 30);
        Check.due("the last", check.scribe.kind(1, 29), 0);
        Check.due("none behind it", check.scribe.kind(1, 30), GraphScribe.BAD);
        Edge.right("<b><b>" + EIGHT + "</b><b>" + EIGHT + "</b><b>" + EIGHT + "</b><a/><a/><a reference='../a'/></b>", 30);
    }

    /** "nor has .. the 31st object" */
    private static void object31() {
        String most = "<b>" + EIGHT + "</b><b>" + EIGHT + "</b><b>" + EIGHT + "</b>";
        Edge.senseless("<b>" + most + "<a/><a/>^<a/></b>");
        Edge.senseless("<b>" + most + "<a/><a/>^<a/><q/></b>");
        Edge.senseless("<b>" + most + "<a/><a>^<r class='a'/></a></b>");
        Edge.senseless("<b>" + most + "<a/><a><l>^<b/></l></a></b>");
        Check check = Edge.full();
        check.readText("<b>" + most + "<a/><a/></b>");
        Check.due("30 objects", check.scribe.count(2), 30);
        Check.due("fewer again", check.readText("<a/>"), 1);
    }

    /** "What stands around comments counts as if they were not there" */
    private static void comments() {
        Check check = Edge.right("<a><!-- x --><n>1<!-- 5 -->2</n><s>a<!---->b</s><!-- <n>3</n> --></a>", 1);
        Check.due("number", check.scribe.value(1, 0, 0, 0), 12);
        Check.due("text", check.textOf(1, 0, 1), "ab");
        Edge.senseless("^<a>x<!-- --></a>");
        Edge.senseless("<a>^<n>1<!-- --> 2</n></a>");
        Edge.senseless("<a>^<n><!-- 1 --></n></a>");
    }

    /** "signs by & and of CDATA count as others" */
    private static void signsByAmpersandAndCdata() {
        Check check = Edge.right("<a>&#32;<![CDATA[ ]]><n>&#45;<![CDATA[1]]>&#x30;</n><s>&lt;<![CDATA[&lt;]]></s></a>", 1);
        Check.due("number", check.scribe.value(1, 0, 0, 0), -10);
        Check.due("text", check.textOf(1, 0, 1), "<&lt;");
        Edge.right("<b id='&#49;' m='&#x31;'/>", 1);
        Edge.right("<a><r class='&#97;'/></a>", 2);
        Edge.senseless("^<a>&#33;</a>");
        Edge.senseless("^<a><![CDATA[x]]></a>");
        Edge.senseless("<a>^<l>&lt;</l></a>");
        Edge.senseless("<a>^<n>&#32;1</n></a>");
        Edge.senseless("<a>^<s>&#9;</s></a>");
    }

    private static void number(String digits) {
        Check check = Edge.right("<a><n>" + digits + "</n></a>", 1);
        Check.due("number " + digits, check.scribe.value(1, 0, 0, 0), Integer.parseInt(digits));
        check = Edge.right("<b m='" + digits + "'/>", 1);
        Check.due("number " + digits + " as an attribute", check.scribe.value(1, 0, 0, 0), Integer.parseInt(digits));
    }

    private static void noNumber(String digits) {
        Edge.senseless("<a>^<n>" + digits + "</n></a>");
        Edge.senseless("^<b m='" + digits + "'/>");
    }

    /** "Numbers are digits, at most ten, or - and these" */
    private static void digitsOfNumbers() {
        number("0");
        number("-1");
        number("1234567890");
        number("-1234567890");
        number("0000000000");
        number("0000000001");
        number("-0000000001");
        noNumber("00000000001");
        noNumber("-00000000001");
        noNumber("00000000000");
        noNumber("");
        noNumber("-");
        Edge.senseless("<a>^<n/></a>");
    }

    /** "of an int" */
    private static void greatestAndLeastNumbers() {
        number("2147483647");
        number("-2147483648");
        noNumber("2147483648");
        noNumber("-2147483649");
        noNumber("4294967296");
        noNumber("4294967301");
        noNumber("-4294967297");
        noNumber("9999999999");
        noNumber("-9999999999");
    }

    /** "Numbers are digits .. or - and these": nothing else */
    private static void otherNumbers() {
        String[] none = {" ", " 1", "1 ", "1 2", "+1", "--1", "1-", "-1-", "- 1", "0x1", "1a", "a", "1.", "1,0", "1e1", "/", ":", "\n1"};
        for (String digits : none) {
            noNumber(digits);
        }
    }

    /** "texts as above": at most 20 signs 32 .. 126 */
    private static void signsOfTexts() {
        String twenty = " bcdefghijklmnopqrs~";
        Check check = Edge.right("<a><s>" + twenty + "</s></a>", 1);
        Check.due("20 signs", check.textOf(1, 0, 1), twenty);
        check = Edge.right("<b u='" + twenty + "'/>", 1);
        Check.due("20 signs of an attribute", check.textOf(1, 0, 1), twenty);
        check = Edge.right("<a><s>" + "&#60;".repeat(20) + "</s></a>", 1);
        Check.due("20 signs by &", check.textOf(1, 0, 1), "<".repeat(20));
        check = Edge.right("<a><s/></a>", 1);
        Check.due("no signs", check.textOf(1, 0, 1), "");
        Edge.right("<a><s></s></a>", 1);
        Edge.senseless("<a>^<s>" + twenty + "x</s></a>");
        Edge.senseless("^<b u='" + twenty + "x'/>");
        Edge.senseless("<a>^<s>1234567890<![CDATA[1234567890]]>x</s></a>");
        String[] low = {"\t", "\n", "\r", "a\tb", "&#9;", "&#10;", "x&#13;", "&#xA;"};
        for (String text : low) {
            Edge.senseless("<a>^<s>" + text + "</s></a>");
            Edge.senseless("^<b u='" + text + "'/>");
        }
    }

    /** "elements of numbers, texts and lists have no attributes" */
    private static void attributesOfOthers() {
        Edge.senseless("<a>^<n q=''>1</n></a>");
        Edge.senseless("<a>^<s q=''>x</s></a>");
        Edge.senseless("<a>^<l q=''><a/></l></a>");
        Edge.senseless("<a>^<n reference='/a'>1</n></a>");
        Edge.senseless("<a>^<s reference='/a'/></a>");
        Edge.senseless("<a>^<l reference='/a'/></a>");
    }

    /** A number or a text has no elements in it. */
    private static void elementsInOthers() {
        Edge.senseless("<a>^<n>1<n>1</n></n></a>");
        Edge.senseless("<a>^<s>x<a/></s></a>");
    }

    /** "what is not there is as at first" */
    private static void whatIsNotThere() {
        Check check = Edge.full();
        check.readText("<a><n>5</n><s>x</s><r class='b' m='3' u='y'><a/></r><l><a/></l></a>");
        Check.due("read()", check.readText("<a><l><b/></l></a>"), 2);
        Check.due("number", check.scribe.value(1, 0, 0, 0), 0);
        Check.due("text", check.scribe.value(1, 0, 1, 0), GraphScribe.NONE);
        Check.due("reference", check.scribe.value(1, 0, 2, 0), GraphScribe.NONE);
        Check.due("number that is an attribute", check.scribe.value(1, 1, 0, 0), 0);
        Check.due("text that is an attribute", check.scribe.value(1, 1, 1, 0), GraphScribe.NONE);
        Check.due("implicit list", check.scribe.value(1, 1, 2, 0), GraphScribe.NONE);
        Check.due("read()", check.readText("<a/>"), 1);
        Check.due("list", check.scribe.value(1, 0, 3, 0), GraphScribe.NONE);
    }

    /** "A FORBIDDEN class is none." */
    private static void forbiddenClasses() {
        Edge.senseless("^<c/>");
        Edge.senseless("<a><l>^<c/></l></a>");
        Edge.senseless("<b>^<c/></b>");
        Edge.senseless("<a>^<r class='c'/></a>");
        Check check = Edge.full();
        check.scribe.forbid(2, false);
        Check.due("not forbidden any more", check.readText("<a><l><c/></l><r class='c'/></a>"), 3);
        check.scribe.forbid(0, true);
        Check.due("another one", check.readText("<a/>"), GraphScribe.MEANING);
        Check.due("the others", check.readText("<b><c/></b>"), 2);
    }

    /** "(of a parent before its children" */
    private static void parentsBeforeChildren() {
        Edge.senseless("^<a><n>x</n>x</a>");
        Edge.senseless("^<a q=''><q/></a>");
        Edge.senseless("<a>^<l q=''><q/></l></a>");
        Edge.senseless("<a>^<l><q/>x</l></a>");
        Edge.senseless("<a>^<q><q/></q></a>");
        Edge.senseless("^<q><q/></q>");
        Edge.senseless("<a>^<r class='a'><q/>x</r></a>");
    }

    /** "the first element, in their order, that has no meaning" */
    private static void firstInOrder() {
        Edge.senseless("<a>^<n>x</n><q/></a>");
        Edge.senseless("<a>^<q/><n>x</n></a>");
        Edge.senseless("<a><l><a>^<n/></a></l><q/></a>");
        Edge.senseless("<a><l><a/>^<q/></l><n>x</n></a>");
    }

    /** "the read heap, numbered in the order of beginning" */
    private static void orderOfBeginning() {
        Check check = Edge.right("<b><a><r class='b'><a/></r></a><b/></b>", 5);
        int[] kinds = {1, 0, 1, 0, 1};
        for (int i = 0; i < kinds.length; i++) {
            Check.due("kind(1, " + i + ")", check.scribe.kind(1, i), kinds[i]);
        }
        Check.due("the list of 0", State.cells(check.scribe, 1, 0, 2).toString(), "[1, 4]");
        Check.due("the reference of 1", check.scribe.value(1, 1, 2, 0), 2);
        Check.due("the list of 2", State.cells(check.scribe, 1, 2, 2).toString(), "[3]");
    }
}
