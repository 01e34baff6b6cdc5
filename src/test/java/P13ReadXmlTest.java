/** Promise 13: what was collected is read; the first sign that is wrong as XML is told. */
public final class P13ReadXmlTest {
    private static final String CLASSES = "a(x:i,s:t,l:l,r:r);b(t:t@,l:l*);_z9()";

    public static void main(String[] args) {
        withoutClasses();
        outside();
        startTags();
        attributes();
        values();
        endTags();
        contents();
        comments();
        cdata();
        otherMarkup();
        references();
        depths();
        manyAttributes();
        whatIsGone();
        manyReadings();
        Check.end();
    }

    private static void told(String text, int want) {
        Check check = Check.of(CLASSES);
        Check.due("read of " + text, check.readText(text), want);
        Check.due("count(2) behind " + text, check.scribe.count(2), Math.max(0, want));
        Check.due("count(4) behind " + text, check.scribe.count(4), 0);
    }

    /** Sign n is the first that is wrong. */
    private static void wrong(String text, int n) {
        told(text, -1 - n);
    }

    private static void withoutClasses() {
        Check check = new Check();
        Check.due("read() without classes", check.readText("<a/>"), -3001);
        Check.due("count(4) behind it", check.scribe.count(4), 4);
        Check.due("read() without classes", check.readText("<"), -3001);
        Check.due("count(4) behind it", check.scribe.count(4), 5);
    }

    private static void outside() {
        told("<a/>", 1);
        told(" \t\n\r<a/>\r\n\t ", 1);
        wrong("", 0);
        wrong("   ", 3);
        wrong("x<a/>", 0);
        wrong(" x<a/>", 1);
        wrong("&#32;<a/>", 0);
        wrong("<a/>x", 4);
        wrong("<a/> x", 5);
        wrong("<a/><a/>", 4);
        wrong("<a/> <b/>", 5);
        wrong("<a></a>&#32;", 7);
        wrong("<a/><!-- x -->", 4);
        wrong("<a/></a>", 4);
        wrong("<!-- x --><a/>", 1);
        wrong("<?xml?><a/>", 1);
        wrong("<![CDATA[x]]><a/>", 1);
        wrong("</a>", 1);
        wrong("<", 1);
        wrong("<!", 1);
    }

    private static void startTags() {
        told("<a />", 1);
        told("<a\t\n\r />", 1);
        told("<a ></a>", 1);
        told("<__z9/>", 1);
        wrong("<a", 2);
        wrong("<a ", 3);
        wrong("<a/", 3);
        wrong("<a/ >", 3);
        wrong("<a//>", 3);
        wrong("<a", 2);
        wrong("< a/>", 1);
        wrong("<1/>", 1);
        wrong("<-/>", 1);
        wrong("<./>", 1);
        wrong("<$/>", 1);
        wrong("<a$/>", 2);
        wrong("<a:b/>", 2);
        wrong("<a=/>", 2);
        wrong("<a</a>", 2);
        wrong("<a <b/></a>", 3);
        wrong("<a -/>", 3);
        wrong("<a 1='2'/>", 3);
        wrong("<a \"/>", 3);
        told("<_/>", -10001);
        told("<a-b.c_D9/>", -10001);
        told("<Z.-/>", -10001);
        told("<a></a >", 1);
    }

    private static void attributes() {
        told("<b t=\"q\"/>", 1);
        told("<b t='q'/>", 1);
        told("<b  \n t='q'  />", 1);
        told("<b t='q'></b>", 1);
        told("<b id='1' t='q' ></b>", 1);
        wrong("<b t='q'id='1'/>", 8);
        wrong("<b t ='q'/>", 4);
        wrong("<b t= 'q'/>", 5);
        wrong("<b t/>", 4);
        wrong("<b t>", 4);
        wrong("<b t", 4);
        wrong("<b t=", 5);
        wrong("<b t=q/>", 5);
        wrong("<b t='", 6);
        wrong("<b t='q", 7);
        wrong("<b t='q'", 8);
        wrong("<b t='q\"/>", 10);
        wrong("<b t=\"q'/>", 10);
        wrong("<b t='1' t='2'/>", 9);
        wrong("<b t='1' t=\"1\"/>", 9);
        wrong("<b t='1' t/>", 9);
        wrong("<b t='1' t=2/>", 9);
        wrong("<b t='1' u='2' t='3'/>", 15);
        wrong("<b t='1' tt='2' tt='3'/>", 16);
        wrong("<b t='1' x", 10);
        told("<b t='1' tt='2'/>", -10001);
        told("<b t='1' T='2'/>", -10001);
        told("<a><b t='1'/><b t='1'/></a>", -10004);
        told("<b><b t='1'/><b t='1'/></b>", 3);
        told("<b t='1'><b t='1'/></b>", 2);
    }

    private static void values() {
        told("<b t='>'/>", 1);
        told("<b t='\"'/>", 1);
        told("<b t=\"'\"/>", 1);
        told("<b t=''/>", 1);
        told("<b t='&lt;&gt;&amp;&quot;&apos;&#65;&#x41;'/>", 1);
        told("<b t=']]>'/>", 1);
        told("<b t='--'/>", 1);
        wrong("<b t='<'/>", 6);
        wrong("<b t='a<b/>", 7);
        wrong("<b t='&'/>", 6);
        wrong("<b t='&lt'/>", 6);
        wrong("<b t='a&b;'/>", 7);
        wrong("<b t='&", 6);
        wrong("<b t='&am", 6);
        told("<b t='\n'/>", -10001);
        told("<b t='&#10;'/>", -10001);
    }

    private static void endTags() {
        told("<a></a>", 1);
        told("<a></a\n\t >", 1);
        told("<a><l></l></a>", 1);
        wrong("<a></b>", 5);
        wrong("<a></aa>", 5);
        wrong("<a></A>", 5);
        wrong("<a></a", 6);
        wrong("<a></a ", 7);
        wrong("<a></a b>", 7);
        wrong("<a></a/>", 6);
        wrong("<a></", 5);
        wrong("<a></ a>", 5);
        wrong("<a></>", 5);
        wrong("<a></1>", 5);
        wrong("<a></!", 5);
        wrong("<a></b", 5);
        wrong("<aa></a", 6);
        wrong("<aa></a>", 6);
        wrong("<a></aa", 5);
        wrong("<a><x>5</y></a>", 9);
        wrong("<a><x>5</a></x>", 9);
        wrong("<a><x></x></x>", 12);
        wrong("<a>", 3);
        wrong("<a><x>", 6);
        wrong("<a><x></x>", 10);
    }

    private static void contents() {
        told("<a> <x>1</x>\n<s>q</s>\t</a>", 1);
        told("<a><s>]]></s></a>", 1);
        told("<a><s>></s></a>", 1);
        told("<a><s>\"'</s></a>", 1);
        told("<a><s>--></s></a>", 1);
        told("<a>x</a>", -10001);
        wrong("<a>x", 4);
        wrong("<a>x<", 5);
        wrong("<a>x< b/></a>", 5);
        wrong("<a>x&</a>", 4);
        wrong("<a><x>1", 7);
    }

    private static void comments() {
        told("<a><!----></a>", 1);
        told("<a><!-- q --></a>", 1);
        told("<a><!--q--><!--r--></a>", 1);
        told("<a><!-- - > -> <b> & &q; ' \" ]]> <![CDATA[ --></a>", 1);
        told("<a><x>1<!-- 2 -->3</x></a>", 1);
        told("<a><!-->--></a>", 1);
        told("<a><!--->--></a>", 1);
        wrong("<a><!-- -- --></a>", 10);
        wrong("<a><!-- --", 10);
        wrong("<a><!-- -->", 11);
        wrong("<a><!----->", 9);
        wrong("<a><!-- q --->", 12);
        wrong("<a><!--", 7);
        wrong("<a><!--q", 8);
        wrong("<a><!--q-", 9);
        wrong("<a><!-->", 8);
        wrong("<a><!--></a>", 12);
        wrong("<a><!--x</a>", 12);
        wrong("<a><!-- --x--></a>", 10);
        wrong("<a><x><!-- --</x></a>", 13);
    }

    private static void cdata() {
        told("<a><s><![CDATA[]]></s></a>", 1);
        told("<a><s><![CDATA[<&>]]]></s></a>", 1);
        told("<a><s><![CDATA[ ]] > ]></s>]]></s></a>", 1);
        told("<a><![CDATA[ \t]]></a>", 1);
        told("<a><![CDATA[<b/>]]></a>", -10001);
        wrong("<a><![CDATA[", 12);
        wrong("<a><![CDATA[]", 13);
        wrong("<a><![CDATA[]]", 14);
        wrong("<a><![CDATA[]></a>", 18);
        wrong("<a><![CDATA[x]] ></a>", 21);
        Check check = Check.of(CLASSES);
        check.readText("<a><s>a<![CDATA[<&]]]]>b<![CDATA[&lt;]]></s></a>");
        Check.due("text with CDATA", check.textOf(1, 0, 1), "a<&]]b&lt;");
    }

    private static void otherMarkup() {
        wrong("<a><!", 4);
        wrong("<a><!-", 4);
        wrong("<a><!-x", 4);
        wrong("<a><!x", 4);
        wrong("<a><!- -></a>", 4);
        wrong("<a><![", 4);
        wrong("<a><![CDATA", 4);
        wrong("<a><![cdata[x]]></a>", 4);
        wrong("<a><![CDATA x]]></a>", 4);
        wrong("<a><!DOCTYPE a></a>", 4);
        wrong("<a><?x?></a>", 4);
        wrong("<a><", 4);
        wrong("<a>< </a>", 4);
        wrong("<a><<", 4);
    }

    private static void references() {
        String[] right = {"&amp;", "&", "&lt;", "<", "&gt;", ">", "&quot;", "\"", "&apos;", "'", "&#65;", "A",
            "&#065;", "A", "&#000065;", "A", "&#x41;", "A", "&#x000041;", "A", "&#x7e;", "~", "&#x7E;", "~",
            "&#x6a;", "j", "&#x6A;", "j", "&#x4F;", "O", "&#x2f;", "/", "&#x5a;", "Z", "&#x5A;", "Z", "&#32;", " ", "&#126;", "~", "&#38;lt;", "&lt;", "&amp;amp;", "&amp;"};
        for (int i = 0; i < right.length; i += 2) {
            Check check = Check.of(CLASSES);
            Check.due("read of " + right[i], check.readText("<a><s>" + right[i] + "</s></a>"), 1);
            Check.due("text of " + right[i], check.textOf(1, 0, 1), right[i + 1]);
            Check.due("read of value " + right[i], check.readText("<b t='" + right[i] + "'/>"), 1);
            Check.due("text of value " + right[i], check.textOf(1, 0, 0), right[i + 1]);
        }
        String[] wrong = {"&", "&;", "&a;", "&am;", "&amp", "&amp ;", "&AMP;", "&ampp;", "&lt", "&quo;", "&apo;", "& ;",
            "&#;", "&#x;", "&#X41;", "&#65", "&#65 ;", "& #65;", "&#6a;", "&#xg;", "&#x4g;", "&#0000065;", "&#x0000041;",
            "&#31;", "&#127;", "&#0;", "&#8;", "&#11;", "&#12;", "&#14;", "&#x1f;", "&#x7f;", "&#128;", "&#999999;",
            "&#xffffff;", "&#-65;", "&#+65;", "&#65.;", "&&amp;", "&#x4`;", "&#x@;", "&#/;", "&#:;", "&#xG;", "&#x4G;"};
        for (String w : wrong) {
            wrong("<a><s>ab" + w + "</s></a>", 8);
            wrong("<b t=\"" + w + "\"/>", 6);
        }
        told("<a>&#32;&#9;&#10;&#13;&#x20;&#xA;&#xd;&#x9;</a>", 1);
        wrong("<a>&", 3);
        wrong("<a>&#", 3);
        wrong("<a>&#6", 3);
        wrong("<a>&#x", 3);
        wrong("<a>&#65", 3);
        wrong("<a>&am", 3);
    }

    private static String nested(int depth, String inner) {
        return "<q>".repeat(depth) + inner + "</q>".repeat(depth);
    }

    private static void depths() {
        told(nested(40, ""), -10001);
        told(nested(39, "<q/>"), -10001);
        wrong(nested(40, "<q/>"), 120);
        wrong(nested(41, ""), 120);
        wrong(nested(40, "<"), 120);
        wrong("<q>".repeat(40) + "<", 120);
        wrong(nested(40, "< "), 120);
        wrong(nested(40, "<1"), 120);
        wrong(nested(40, "<!x"), 120);
        wrong("<q>".repeat(40) + "<!", 120);
        wrong("<q>".repeat(40) + "<!-", 120);
        wrong("<q>".repeat(40) + "<![CDATA", 120);
        wrong("<q>".repeat(39) + "<!", 118);
        told(nested(40, "<!-- x -->"), -10001);
        told(nested(40, "<![CDATA[x]]>"), -10001);
        wrong(nested(40, "<!-- -- -->"), 127);
        wrong("<q>".repeat(40) + "<!--", 124);
        wrong("<q>".repeat(40) + "</", 122);
        wrong(nested(40, "</r>"), 122);
        told("<q>" + nested(39, "") + "<q><q/></q></q>", -10001);
        wrong("<q><q><q/></q>" + nested(39, "<q/>"), 14 + 3 * 38 + 3);
    }

    /** An element with many attributes, and nothing else wrong than what they mean. */
    private static void manyAttributes() {
        StringBuilder text = new StringBuilder("<b");
        String signs = "abcdefghijklmnopqrstuvwxyzABCDEFGHIJKLMNOPQRSTUVWXYZ_";
        for (int i = 0; i < signs.length(); i++) {
            text.append(' ').append(signs.charAt(i)).append("=''");
        }
        for (int i = 0; i < 20; i++) {
            text.append(" _").append((char) ('a' + i)).append("=''");
        }
        told(text + "/>", -10001);
        told(text + " a_=''/>", -10001);
        wrong(text + " _=''/>", text.length() + 1);
        wrong(text + " a=''/>", text.length() + 1);
        wrong(text + " _t=''/>", text.length() + 1);
    }

    /** Nothing of the texts that were read before is in the way of the next. */
    private static void manyReadings() {
        Check check = Check.of(CLASSES);
        for (int i = 0; i < 6; i++) {
            Check.due("reading " + i, check.readText("<b t='abcdefghij' id='1'><b id='2' t='&#65;'/><b id='3'/></b>"), 3);
            Check.due("text of reading " + i, check.textOf(1, 0, 0), "abcdefghij");
            Check.due("text of reading " + i, check.textOf(1, 1, 0), "A");
            Check.due("text of reading " + i, check.textOf(1, 2, 0), "");
        }
        Check.due("wrong", check.readText("<b t='abcdefghij' id='1'><b id='2' t='&#6;'/>"), -39);
        Check.due("right", check.readText("<a><s>z</s><r reference='/a'/></a>"), 1);
        Check.due("text", check.textOf(1, 0, 1), "z");
    }

    private static void whatIsGone() {
        Check check = Check.of(CLASSES);
        Check.due("read", check.readText("<a><l><b/></l></a>"), 2);
        Check.due("wrong as XML", check.readText("<a>"), -4);
        Check.due("count(2)", check.scribe.count(2), 2);
        Check.due("no meaning", check.readText("<b><b/><b/><b/>x</b>"), -10001);
        Check.due("no meaning behind objects", check.readText("<b><b/><b/><b/><q/></b>"), -10001 - 15);
        Check.due("count(2)", check.scribe.count(2), 2);
        Check.due("kind(1, 0)", check.scribe.kind(1, 0), 0);
        Check.due("kind(1, 1)", check.scribe.kind(1, 1), 1);
        Check.due("read of another", check.readText("<b/>"), 1);
        Check.due("kind(1, 0)", check.scribe.kind(1, 0), 1);
        Check.due("kind(1, 1)", check.scribe.kind(1, 1), GraphScribe.BAD);
        Check.due("the heap", check.scribe.count(1), 0);
    }
}
