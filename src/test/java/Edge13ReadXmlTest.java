/** The edges of promise 13 and of READ: where a text is wrong as XML. A ^ marks the sign that is told. */
public final class Edge13ReadXmlTest {
    private static final char[] BLANKS = {32, 9, 10, 13};

    public static void main(String[] args) {
        withoutClasses();
        mostSigns();
        noElement();
        blanksAround();
        nothingElseAround();
        blanksBeforeAttributes();
        blanksBeforeEnds();
        blanksInEndTags();
        noOtherBlanks();
        quotes();
        signsOfTexts();
        signsOfValues();
        comments();
        commentsWithTwoDashes();
        commentsWithoutEnd();
        cdata();
        cdataWithoutEnd();
        otherMarkup();
        otherMarkupThatEnds();
        otherMarkupWhereNoElementMayCome();
        namedSigns();
        numberedSigns();
        mostDigits();
        signsThatAreNone();
        wrongAmpersands();
        firstSignsOfNames();
        laterSignsOfNames();
        twoAttributesOfOneName();
        endTagsWithAnotherName();
        endTagsThatTheTextCutsOff();
        textsThatEndTooEarly();
        mostElements();
        oneElementTooMany();
        deepest();
        oneTooDeep();
        behindOneTooDeep();
        xmlBeforeMeaning();
        whatIsGone();
        Check.end();
    }

    /** "BAD - 3,000 (that is - 3,001) without classes, before all else (what was collected stays then)" */
    private static void withoutClasses() {
        Edge.unchanged("nothing collected", new Check(), -3001, Scribe::read);
        String[] texts = {"<a/>", "<", "x", "a()", "a(s:t)"};
        for (String text : texts) {
            Check check = new Check();
            check.scribe.limit(3);
            check.collect(text);
            Edge.unchanged("read() of " + text + " without classes", check, -3001, Scribe::read);
            Check.due("signs collected", check.scribe.count(4), text.length());
        }
        Check wrong = new Check();
        wrong.tellClasses("a(");
        wrong.collect("b()");
        Edge.unchanged("behind wrong classes", wrong, -3001, Scribe::read);
        Check.due("what stayed becomes classes", wrong.scribe.classes(), 1);
    }

    /** "READ is a text of at most 3,000 signs" */
    private static void mostSigns() {
        Check check = Edge.ofLength(0);
        check.scribe.write(0, 3);
        check.scribe.take();
        Check.due("3,000 signs", check.scribe.read(), 24);
        Check less = Edge.ofLength(-1);
        less.scribe.write(0, 3);
        less.scribe.take();
        less.collect(" ");
        Check.due("3,000 signs, the last a blank", less.scribe.read(), 24);
        Check other = Edge.ofLength(-1);
        other.scribe.write(0, 3);
        other.scribe.take();
        other.collect("x");
        Edge.unchanged("the last of 3,000 is wrong: count", other, 3000, s -> s.count(4));
        Check.due("the last of 3,000 is wrong", other.scribe.read(), -3000);
    }

    /** "blanks (32, 9, 10, 13), an element, blanks": without an element it is wrong behind the last. */
    private static void noElement() {
        Edge.wrong("^");
        Edge.wrong(" ^");
        Edge.wrong(" \t\n\r^");
        Edge.wrong("<^");
        Edge.wrong("<a^");
    }

    /** "blanks (32, 9, 10, 13), an element, blanks" */
    private static void blanksAround() {
        for (char blank : BLANKS) {
            Edge.right(blank + "<a/>", 1);
            Edge.right("<a/>" + blank, 1);
            Edge.right("" + blank + blank + "<a></a>" + blank + blank, 1);
        }
    }

    /** ", an element, blanks": and nothing else */
    private static void nothingElseAround() {
        Edge.wrong("^x<a/>");
        Edge.wrong(" ^&#32;<a/>");
        Edge.wrong("^><a/>");
        Edge.wrong("<^?x?><a/>");
        Edge.wrong("<^!-- q --><a/>");
        Edge.wrong("<^![CDATA[ ]]><a/>");
        Edge.wrong("<^/a>");
        Edge.wrong("<a/>^x");
        Edge.wrong("<a/> ^&#32;");
        Edge.wrong("<a/>^<a/>");
        Edge.wrong("<a></a> ^</a>");
        Edge.wrong("<a/>^<!-- q -->");
        Edge.wrong("<a/>^<![CDATA[ ]]>");
        Edge.wrong("<a/>^<!");
        Edge.wrong("<a/>^<");
    }

    /** "with one blank at least before each attribute" */
    private static void blanksBeforeAttributes() {
        for (char blank : BLANKS) {
            Edge.right("<b" + blank + "m='1'" + blank + "u='2'/>", 1);
            Edge.right("<b" + blank + blank + "m='1'" + blank + blank + " u='2'/>", 1);
        }
        Edge.wrong("<b m='1'^u='2'/>");
        Edge.wrong("<b m=\"1\"^u='2'/>");
        Edge.wrong("<bm^='1'/>");
    }

    /** "and blanks, or none, before > and />" */
    private static void blanksBeforeEnds() {
        for (char blank : BLANKS) {
            Edge.right("<b m='1'" + blank + "/>", 1);
            Edge.right("<b m='1'" + blank + blank + "></b>", 1);
            Edge.right("<b" + blank + "/>", 1);
            Edge.right("<b" + blank + "></b>", 1);
            Edge.wrong("<b/^" + blank + ">");
        }
        Edge.wrong("<b/^/>");
        Edge.wrong("<b/^");
        Edge.wrong("<b /^x>");
    }

    /** "and in end tags behind the name" */
    private static void blanksInEndTags() {
        for (char blank : BLANKS) {
            Edge.right("<b></b" + blank + ">", 1);
            Edge.right("<b></b" + blank + blank + ">", 1);
            Edge.wrong("<b></^" + blank + "b>");
            Edge.wrong("<b></b" + blank + "^/>");
        }
        Edge.wrong("<b></b ^m='1'>");
        Edge.wrong("<b></b^/>");
        Edge.wrong("<b><^ /b>");
    }

    /** "An attribute is name=\"value\"": no blanks within it, nor behind a &lt; */
    private static void noOtherBlanks() {
        for (char blank : BLANKS) {
            Edge.wrong("<b m^" + blank + "='1'/>");
            Edge.wrong("<b m=^" + blank + "'1'/>");
            Edge.wrong("<^" + blank + "b/>");
        }
    }

    /** "values in \" or '" */
    private static void quotes() {
        Edge.right("<b m=\"1\" u='2'/>", 1);
        Check check = Edge.right("<b u=\"'\"/>", 1);
        Check.due("a ' in \"", check.textOf(1, 0, 1), "'");
        check = Edge.right("<b u='\"'/>", 1);
        Check.due("a \" in '", check.textOf(1, 0, 1), "\"");
        check = Edge.right("<b u=''/>", 1);
        Check.due("an empty value", check.textOf(1, 0, 1), "");
        Edge.wrong("<b m=^1/>");
        Edge.wrong("<b m=^>");
        Edge.wrong("<b m^>");
        Edge.wrong("<b m^/>");
        Edge.wrong("<b m=^`1`/>");
        Edge.wrong("<b m='1\"/>^");
        Edge.wrong("<b m=\"1'/>^");
    }

    /** "texts (any signs but < and &, also > and ]]>)" */
    private static void signsOfTexts() {
        StringBuilder signs = new StringBuilder();
        for (char u = 32; u <= 126; u++) {
            signs.append(u == '<' || u == '&' ? "" : "" + u);
            if (signs.length() == 20 || u == 126) {
                Check check = Edge.right("<a><s>" + signs + "</s></a>", 1);
                Check.due("the text", check.textOf(1, 0, 1), signs.toString());
                signs.setLength(0);
            }
        }
        Check check = Edge.right("<a><s>]]></s></a>", 1);
        Check.due("]]> in a text", check.textOf(1, 0, 1), "]]>");
        Edge.right("<a>\t\n\r </a>", 1);
        Edge.senseless("^<a>]]></a>");
        Edge.wrong("<a>x<^ </a>");
        Edge.wrong("<a>x^& </a>");
        Edge.wrong("<a>x<^</a>");
    }

    /** "In values (that have no <, but >)" */
    private static void signsOfValues() {
        StringBuilder signs = new StringBuilder();
        for (char u = 32; u <= 126; u++) {
            signs.append("<&'".indexOf(u) >= 0 ? "" : "" + u);
            if (signs.length() == 20 || u == 126) {
                Check check = Edge.right("<b u='" + signs + "'/>", 1);
                Check.due("the value", check.textOf(1, 0, 1), signs.toString());
                signs.setLength(0);
            }
        }
        Edge.right("<b u='>'></b>", 1);
        Edge.right("<b u='/>'/>", 1);
        Edge.right("<b u='-->]]>'/>", 1);
        Edge.wrong("<b u='^<'/>");
        Edge.wrong("<b u='x^</b>'/>");
        Edge.wrong("<b u=\"^<!-- -->\"/>");
        Edge.wrong("<b u='^&'/>");
    }

    /** "COMMENTS (<!--, anything without --, -->)" */
    private static void comments() {
        Edge.right("<a><!----></a>", 1);
        Edge.right("<a><!-- --></a>", 1);
        Edge.right("<a><!-->--></a>", 1);
        Edge.right("<a><!--- --></a>", 1);
        Edge.right("<a><!--- - - --></a>", 1);
        Edge.right("<a><!--<b>&q;</c> & < <![CDATA[ ]]> <!- '\"\t\n\r--></a>", 1);
        Edge.right("<a><!----><!----></a>", 1);
    }

    /** "of a comment with -- : the sign behind it" */
    private static void commentsWithTwoDashes() {
        Edge.wrong("<a><!-- --^ --></a>");
        Edge.wrong("<a><!----^x--></a>");
        Edge.wrong("<a><!----^ ></a>");
        Edge.wrong("<a><!-- --^");
        Edge.wrong("<a><!-- x--^<b/>--></a>");
        Edge.wrong("<a><n>1</n><!--q--^q--></a>");
    }

    /** "of one, or CDATA, that does not end: behind all" */
    private static void commentsWithoutEnd() {
        Edge.wrong("<a><!--^");
        Edge.wrong("<a><!-- ^");
        Edge.wrong("<a><!-- -^");
        Edge.wrong("<a><!-- </a>^");
        Edge.wrong("<a><!--></a>^");
        Edge.wrong("<a><!-- -> - > </a>^");
    }

    /** "CDATA (<![CDATA[, anything without ]]>, ]]>)" */
    private static void cdata() {
        String[] texts = {"", " ", "<&>", "]", "]]", "]>", "]] >", "]]]", "&lt;", "<!-- -->", "--", "<![CDATA[", "</s>"};
        for (String text : texts) {
            Check check = Edge.right("<a><s><![CDATA[" + text + "]]></s></a>", 1);
            Check.due("CDATA " + text, check.textOf(1, 0, 1), text);
        }
        Check check = Edge.right("<a><s>a<![CDATA[b]]>c<![CDATA[]]><![CDATA[d]]></s></a>", 1);
        Check.due("several", check.textOf(1, 0, 1), "abcd");
    }

    /** "of one, or CDATA, that does not end: behind all" */
    private static void cdataWithoutEnd() {
        Edge.wrong("<a><![CDATA[^");
        Edge.wrong("<a><![CDATA[]^");
        Edge.wrong("<a><![CDATA[]]^");
        Edge.wrong("<a><![CDATA[ ]></a>^");
        Edge.wrong("<a><![CDATA[ ]] ></a>^");
        Edge.wrong("<a><![CDATA[ --></a>^");
    }

    /** "What begins with <! and is none of these two is wrong at its !" */
    private static void otherMarkup() {
        Edge.wrong("<a><^!x></a>");
        Edge.wrong("<a><^!></a>");
        Edge.wrong("<a><^! -- --></a>");
        Edge.wrong("<a><^!- - --></a>");
        Edge.wrong("<a><^!-x--></a>");
        Edge.wrong("<a><^![cdata[ ]]></a>");
        Edge.wrong("<a><^![CDATA ]]></a>");
        Edge.wrong("<a><^![CDATA([ ]]></a>");
        Edge.wrong("<a><^![ CDATA[ ]]></a>");
        Edge.wrong("<a><^!DOCTYPE a></a>");
        Edge.wrong("<^!DOCTYPE a><a/>");
    }

    /** "also where the text ends within it" */
    private static void otherMarkupThatEnds() {
        String[] parts = {"", "-", "[", "[C", "[CD", "[CDA", "[CDAT", "[CDATA", "D", "[CDATa"};
        for (String part : parts) {
            Edge.wrong("<a><^!" + part);
        }
        Edge.wrong("<^!");
        Edge.wrong("<^!-");
    }

    /** "(at its <, where no element may come any more)" */
    private static void otherMarkupWhereNoElementMayCome() {
        String[] parts = {"", "-", "[", "[CDATA", "x", "DOCTYPE a>", "[cdata[ ]]>", "- -->"};
        for (String part : parts) {
            Edge.wrong("<q>".repeat(40) + "^<!" + part);
            Edge.wrong("<q>".repeat(39) + "<^!" + part);
            Edge.wrong("<q/>^<!" + part);
        }
    }

    /** "& begins &amp; &lt; &gt; &quot; &apos;" */
    private static void namedSigns() {
        String[] names = {"amp", "&", "lt", "<", "gt", ">", "quot", "\"", "apos", "'"};
        for (int i = 0; i < names.length; i += 2) {
            String name = names[i];
            Check check = Edge.right("<a><s>&" + name + ";</s></a>", 1);
            Check.due("text &" + name + ";", check.textOf(1, 0, 1), names[i + 1]);
            check = Edge.right("<b u=\"&" + name + ";\"/>", 1);
            Check.due("value &" + name + ";", check.textOf(1, 0, 1), names[i + 1]);
            Edge.wrong("<a>^&" + name + "</a>");
            Edge.wrong("<a>^&" + name + " ;</a>");
            Edge.wrong("<a>^&" + name + "x;</a>");
            Edge.wrong("<a>^&x" + name + ";</a>");
            Edge.wrong("<a>^&" + name.substring(0, name.length() - 1) + ";</a>");
            Edge.wrong("<a>^&" + name.toUpperCase() + ";</a>");
        }
    }

    /** "&#digits; or &#xhexadecimals;" .. "for a sign 32 .. 126, 9, 10, 13" */
    private static void numberedSigns() {
        int[] signs = {32, 33, 60, 38, 125, 126};
        for (int u : signs) {
            String[] forms = {"&#" + u + ";", "&#x" + Integer.toHexString(u) + ";",
                "&#x" + Integer.toHexString(u).toUpperCase() + ";"};
            for (String form : forms) {
                Check check = Edge.right("<a><s>" + form + "</s></a>", 1);
                Check.due("text " + form, check.textOf(1, 0, 1), "" + (char) u);
                check = Edge.right("<b u='" + form + "'/>", 1);
                Check.due("value " + form, check.textOf(1, 0, 1), "" + (char) u);
            }
        }
        String[] blanks = {"9", "10", "13", "32", "x9", "xA", "xa", "xD", "xd", "x20"};
        for (String blank : blanks) {
            Edge.right("<a>&#" + blank + ";</a>", 1);
        }
    }

    /** "at most 6 of them" */
    private static void mostDigits() {
        Edge.right("<a><s>&#65;&#065;&#0065;&#00065;&#000065;</s></a>", 1);
        Edge.right("<a><s>&#x41;&#x041;&#x0041;&#x00041;&#x000041;</s></a>", 1);
        Edge.right("<a>&#9;&#x9;</a>", 1);
        Edge.wrong("<a>^&#0000065;</a>");
        Edge.wrong("<a>^&#x0000041;</a>");
        Edge.wrong("<a>^&#0000000000000065;</a>");
        Edge.wrong("<a>^&#;</a>");
        Edge.wrong("<a>^&#x;</a>");
    }

    /** "for a sign 32 .. 126, 9, 10, 13": others are none, also what would be one if it wrapped around. */
    private static void signsThatAreNone() {
        String[] numbers = {"0", "8", "11", "12", "14", "31", "127", "128", "255", "256", "321", "65601", "999999", "x0", "x8",
            "xb", "xB", "xc", "xe", "x1f", "x1F", "x7f", "x7F", "x80", "x141", "x10041", "xffffff", "xFFFFFF"};
        for (String number : numbers) {
            Edge.wrong("<a>x^&#" + number + ";</a>");
            Edge.wrong("<b u='^&#" + number + ";'/>");
        }
    }

    /** "of what & begins wrongly: the &" */
    private static void wrongAmpersands() {
        String[] wrong = {"", ";", " ", "&amp;", "#", "#;", "# 65;", "#65", "#65 ;", "#6 5;", "#a;", "#6a;", "#X41;", "#xg;",
            "#x4g;", "#x-41;", "#-65;", "#+65;", "#x 41;", "#65.0;", "#/;", "#:;", "#x/;", "#x:;", "#x@;", "#xG;", "#x`;"};
        for (String w : wrong) {
            Edge.wrong("<a>x^&" + w + "</a>");
            Edge.wrong("<b u=\"x^&" + w + "\"/>");
            Edge.wrong("<a>^&" + w);
        }
    }

    /** "XML's names here: a letter or _" */
    private static void firstSignsOfNames() {
        Check check = Edge.full();
        for (char u = 33; u <= 126; u++) {
            boolean right = isLetter(u) || u == '_';
            told(check, "<" + u + "/>", u == 'a' || u == 'b' ? 1 : right ? -10001 : -2);
            told(check, "<q " + u + "=''/>", right ? -10001 : u == '/' ? -5 : u == '>' ? -10 : -4);
        }
    }

    /** "then letters, digits, _ - ." */
    private static void laterSignsOfNames() {
        Check check = Edge.full();
        for (char u = 33; u <= 126; u++) {
            boolean right = isLetter(u) || u >= '0' && u <= '9' || "_-.".indexOf(u) >= 0;
            told(check, "<q" + u + "/>", right ? -10001 : u == '/' ? -4 : u == '>' ? -6 : -3);
            told(check, "<q q" + u + "=''/>", right ? -10001 : u == '=' ? -6 : -5);
            told(check, "<q></q" + u + ">", right ? -6 : u == '>' ? -8 : -7);
        }
        Edge.senseless("^<Az_-.09 zA.-_90=''></Az_-.09>");
    }

    private static void told(Check check, String text, int want) {
        Scribe twin = check.scribe.twin();
        for (char u : text.toCharArray()) {
            twin.unit(u);
        }
        Check.due("read() of " + text, twin.read(), want);
    }

    private static boolean isLetter(char u) {
        return u >= 'a' && u <= 'z' || u >= 'A' && u <= 'Z';
    }

    /** "no two attributes of an element have one name"; "of a second attribute of one name .. the first sign of that name" */
    private static void twoAttributesOfOneName() {
        Edge.wrong("<b m='1' ^m='2'/>");
        Edge.wrong("<b m='1'   ^m='1'></b>");
        Edge.wrong("<b m='1' u='2' ^m='3'/>");
        Edge.wrong("<b u='1' mm='1' m='2' ^mm='3'/>");
        Edge.wrong("<a><b m='1' ^m='2'/></a>");
        Edge.right("<b m='1'><b m='1'/><b m='1'/></b>", 3);
        Edge.senseless("^<b m='1' M='1' mm='1'/>");
    }

    /** "of an end tag with another name .. the first sign of that name" */
    private static void endTagsWithAnotherName() {
        Edge.wrong("<a></^b>");
        Edge.wrong("<a></^A>");
        Edge.wrong("<a></^aa>");
        Edge.wrong("<aa></^a>");
        Edge.wrong("<a><n>1</^a></n>");
        Edge.wrong("<a><n>1</n></^n>");
        Edge.wrong("<ab></^ac >");
        Edge.wrong("<a></^>");
        Edge.wrong("<a></^1>");
    }

    /** "(also one that the text cuts off)" */
    private static void endTagsThatTheTextCutsOff() {
        Edge.wrong("<a></^b");
        Edge.wrong("<abc></^a");
        Edge.wrong("<abc></^ab");
        Edge.wrong("<abc></abc^");
        Edge.wrong("<abc></^abcd");
        Edge.wrong("<abc></^");
        Edge.wrong("<abc></abc ^");
    }

    /** Each part of a text, from its first sign on, is wrong behind its last one, but for what the promise tells. */
    private static void textsThatEndTooEarly() {
        String text = " <abc de='f&lt;' g=\"&#x41;\"  >t&amp;<!-- c --><hij/> <![CDATA[d]]]></abc > ";
        int end = text.lastIndexOf('>') + 1;
        Check check = Edge.full();
        for (int cut = 0; cut <= text.length(); cut++) {
            String part = text.substring(0, cut);
            int place = cut;
            int ampersand = part.lastIndexOf('&');
            if (ampersand > part.lastIndexOf(';')) {
                place = ampersand;
            }
            int mark = part.lastIndexOf("<!");
            if (mark >= 0 && (text.startsWith("<!--", mark) && cut < mark + 4 || text.startsWith("<![", mark) && cut < mark + 9)) {
                place = mark + 1;
            }
            int tag = part.indexOf("</");
            if (tag >= 0 && cut > tag + 2 && cut < tag + 5) {
                place = tag + 2;
            }
            told(check, part, cut >= end ? GraphScribe.MEANING - 1 : -1 - place);
        }
    }

    /**
     * 30 objects, each with four lists: 150 elements; and as many references more as told. The objects 1 to 29 stand in
     * the root's lists, references to the root at the ends of their own first lists.
     */
    private static Check ofElements(int references) {
        Check check = Check.of("a(p:l,q:l,r:l,s:l)");
        for (int i = 0; i < 30; i++) {
            check.scribe.make(0);
        }
        for (int i = 1; i < 30; i++) {
            check.scribe.add(0, (i - 1) / 8, i);
        }
        for (int i = 0; i < references; i++) {
            check.scribe.add(29 - i / 8, 0, 0);
        }
        Check.due("write", check.scribe.write(0, 2) > 0, true);
        return check;
    }

    /** "at most 200 elements" */
    private static void mostElements() {
        Check check = ofElements(50);
        check.scribe.take();
        Check.due("200 elements", check.scribe.read(), 30);
        Check.due("the same graph", check.scribe.same(0), true);
    }

    /** "of a 201st element .. its <, whatever is behind that" */
    private static void oneElementTooMany() {
        for (int references = 51; references <= 60; references++) {
            Check check = ofElements(references);
            String text = check.written();
            int place = -1;
            for (int i = 0; i < 201; i++) {
                do {
                    place = text.indexOf('<', place + 1);
                } while (text.charAt(place + 1) == '/');
            }
            check.readText("<a><p/></a>");
            State before = new State(check.scribe);
            check.scribe.take();
            Check.due("read() of " + (150 + references) + " elements", check.scribe.read(), -1 - place);
            before.dueNow("read() of " + (150 + references) + " elements", check.scribe);
        }
    }

    /** "40 deep (the root is 1 deep)" */
    private static void deepest() {
        Edge.senseless("^" + "<q>".repeat(40) + "</q>".repeat(40));
        Edge.senseless("^" + "<q>".repeat(39) + "<q/>" + "</q>".repeat(39));
        Edge.senseless("^" + "<q>".repeat(39) + "<q/><q></q><q/>" + "</q>".repeat(39));
        Check check = Check.of("a(p:l)");
        for (int i = 0; i < 20; i++) {
            check.scribe.make(0);
        }
        for (int i = 0; i < 19; i++) {
            check.scribe.add(i, 0, i + 1);
        }
        check.scribe.limit(20);
        check.scribe.write(0, 0);
        check.scribe.take();
        Check.due("20 objects and 20 lists, one within the other", check.scribe.read(), 20);
        Check.due("the same graph", check.scribe.same(0), true);
    }

    /** "or one too deep: its <" */
    private static void oneTooDeep() {
        Edge.wrong("<q>".repeat(40) + "^<q/>" + "</q>".repeat(40));
        Edge.wrong("<q>".repeat(40) + "^<q></q>" + "</q>".repeat(40));
        Edge.wrong("<q>".repeat(39) + "<q/><q>^<q/></q>" + "</q>".repeat(39));
        Edge.wrong("<q>".repeat(40) + "</q><q>x^<q>");
    }

    /** "whatever is behind that, but a /, a comment or CDATA" */
    private static void behindOneTooDeep() {
        String[] behind = {"", " ", "1", "<", "?", "!", "q", "-", "&"};
        for (String b : behind) {
            Edge.wrong("<q>".repeat(40) + "^<" + b);
        }
        Edge.wrong("<q>".repeat(40) + "</^");
        Edge.wrong("<q>".repeat(40) + "</^r>");
        Edge.senseless("^" + "<q>".repeat(40) + "<!-- --><![CDATA[]]>" + "</q>".repeat(40));
        Edge.wrong("<q>".repeat(40) + "<!--^");
        Edge.wrong("<q>".repeat(40) + "<!-- --^ -->");
        Edge.wrong("<q>".repeat(40) + "<![CDATA[^");
    }

    /** "the first sign that is wrong as XML ..; if none is, MEANING less" */
    private static void xmlBeforeMeaning() {
        Edge.wrong("<q></^r>");
        Edge.wrong("<a><n>x</n><q/></a>^x");
        Edge.wrong("<c m='1' ^m='1'/>");
        Edge.senseless("^<c m='1'/>");
    }

    /** "What was collected is read, and is gone"; "what was read before stays then" */
    private static void whatIsGone() {
        Check check = Edge.full();
        State before = new State(check.scribe);
        Check.due("wrong", check.readText("<a>"), -4);
        before.dueNow("read() of a wrong text", check.scribe);
        Check.due("without meaning", check.readText("<a><l><b/><b/><q/></l></a>"), GraphScribe.MEANING - 14);
        before.dueNow("read() of a text without meaning", check.scribe);
        Check.due("right", check.readText("<a/>"), 1);
        State now = new State(check.scribe);
        Check.due("signs collected", check.scribe.count(4), 0);
        Check.due("the heap", now.heap, before.heap);
        Check.due("the classes", now.classes, before.classes);
        Check.due("what was written", now.written, before.written);
        Check.due("LIMIT", now.limit, before.limit);
        Check.due("forbidding", now.forbidding, before.forbidding);
        Check.due("what was read before is gone", check.scribe.kind(1, 1), GraphScribe.BAD);
    }
}
