/** Promise 3: classes are told by a text; the first wrong sign is told. */
public final class P03ClassesTest {
    public static void main(String[] args) {
        rightTexts();
        wrongSigns();
        mostOfAll();
        names();
        rulesOnNames();
        whatIsGone();
        whatStays();
        kinds();
        toldAgain();
        Check.end();
    }

    private static void told(String text, int want) {
        Check check = new Check();
        Check.due("classes() of " + text, check.tellClasses(text), want);
        Check.due("count(0) behind " + text, check.scribe.count(0), Math.max(0, want));
        Check.due("count(4) behind " + text, check.scribe.count(4), 0);
    }

    private static void rightTexts() {
        told("a()", 1);
        told("a();b()", 2);
        told("a(x:i)", 1);
        told("a(x:i,y:t,z:r,w:l)", 1);
        told("a(x:i@,y:t@,z:r,w:l*)", 1);
        told("a(l:l,m:l*)", 1);
        told("a(l:l*,m:l)", 1);
        told("a(l:l*);b(l:l*)", 2);
        told("$();_();_0();A9$_()", 4);
        told("abcdefgh(ABCDEFGH:i)", 1);
        told("a();b();c();d();e();f()", 6);
    }

    private static void wrongSigns() {
        told("", -1);
        told("a", -2);
        told("a(", -3);
        told("a(x", -4);
        told("a(x:", -5);
        told("a(x:i", -6);
        told("a(x:i@", -7);
        told("a(x:l*", -7);
        told("a(x:i,", -7);
        told("a();", -5);
        told("a();b", -6);
        told(";", -1);
        told("()", -1);
        told("a)", -2);
        told("a(,", -3);
        told("a(:", -3);
        told("a((", -3);
        told("a(x)", -4);
        told("a(x,y:i)", -4);
        told("a(x:)", -5);
        told("a(x:q)", -5);
        told("a(x:I)", -5);
        told("a(x:ii)", -6);
        told("a(x:i;", -6);
        told("a(x:i,)", -7);
        told("a(x:i,,", -7);
        told("a())", -4);
        told("a(),b()", -4);
        told("a()b()", -4);
        told("a();;b()", -5);
        told(" a()", -1);
        told("a ()", -2);
        told("a( )", -3);
        told("a(x :i)", -4);
        told("a(x: i)", -5);
        told("a(x:i )", -6);
        told("a() ", -4);
        told("a();\nb()", -5);
        told("a(x:i*)", -6);
        told("a(x:t*)", -6);
        told("a(x:r*)", -6);
        told("a(x:r@)", -6);
        told("a(x:l@)", -6);
        told("a(x:i@@)", -7);
        told("a(x:i@*)", -7);
        told("a(x:l**)", -7);
        told("a(x:l*@)", -7);
        told("a(l:l*,m:l*)", -11);
        told("a(l:l*,m:l,n:l*)", -15);
    }

    private static void mostOfAll() {
        told("a(p:i,q:i,r:i,s:i)", 1);
        told("a(p:i,q:i,r:i,s:i,t:i)", -18);
        told("a(p:i,q:i,r:i,s:i,", -18);
        told("a(p:i,q:i,r:i,s:i;", -18);
        told("a();b();c();d();e();f();g()", -24);
        told("a();b();c();d();e();f();", -24);
        told("a();b();c();d();e();f()g", -24);
        StringBuilder longest = new StringBuilder();
        for (int c = 0; c < 6; c++) {
            longest.append(c == 0 ? "" : ";").append((char) ('a' + c)).append("_$_$_$_(");
            for (int f = 0; f < 4; f++) {
                longest.append(f == 0 ? "" : ",").append((char) ('p' + f)).append("$$$$$$$:i@");
            }
            longest.append(")");
        }
        told(longest.toString(), 6);
    }

    private static void names() {
        told("9()", -1);
        told("a9()", 1);
        told("-()", -1);
        told("a-()", -2);
        told("a.()", -2);
        told("abcdefgh()", 1);
        told("abcdefghi()", -9);
        told("abcdefgh9()", -9);
        told("abcdefgh-()", -9);
        told("a(9:i)", -3);
        told("a(x9:i)", 1);
        told("a(abcdefgh:i)", 1);
        told("a(abcdefghi:i)", -11);
        told("a([:i)", -3);
        told("a(@:i)", -3);
        told("a(`:i)", -3);
        told("a({:i)", -3);
        told("azAZ09_$()", 1);
        told("/()", -1);
        told("a/()", -2);
    }

    private static void rulesOnNames() {
        told("a();a()", -8);
        told("a();b();a()", -12);
        told("a(x:i,x:t)", -11);
        told("a(x:i,y:i,x:t)", -15);
        told("a(x:i);b(x:i)", 2);
        told("a(a:i)", 1);
        told("a(b:i);b(a:r)", 2);
        told("a(class:i)", -11);
        told("a(id:i)", -8);
        told("a(reference:i)", -11);
        told("a(referenc:i)", 1);
        told("a(id:t@)", -9);
        told("a(x:i,id:l)", -12);
        told("a(Id:i,classs:i,refer:i,i:i)", 1);
        told("class();id()", 2);
        told("a(l:l*,b:i);b()", -16);
        told("a(b:i,l:l*);b()", -16);
        told("a(l:l*,b:t@);b()", -17);
        told("a(l:l*,a:r)", -12);
        told("a(a:l*)", -8);
        told("b();a(b:l*)", -12);
        told("a(l:l,b:i);b()", 2);
        told("a(l:l*,b:i);B()", 2);
        told("a(l:l*);b(a:i)", 2);
        told("a(x:i,x:i,q:q)", -13);
        told("a();a(", -7);
        told("a_();a$()", 2);
        told("ab();a()", 2);
        told("a();ab()", 2);
        told("a(xy:i,x:i)", 1);
        told("a(x:i,xy:i)", 1);
        told("a(xx:i,xy:i,yx:i)", 1);
    }

    private static void whatIsGone() {
        Check check = Check.of("a(x:i);b()");
        check.scribe.make(0);
        check.scribe.write(0, 0);
        check.readText("<a/>");
        check.scribe.forbid(1, true);
        check.scribe.limit(4);
        Check.due("classes()", check.tellClasses("q();r();s()"), 3);
        int[] counts = {3, 0, 0, 0, 0, 0};
        for (int what = 0; what < counts.length; what++) {
            Check.due("count(" + what + ") behind new classes", check.scribe.count(what), counts[what]);
        }
        Check.due("forbid(1, false) behind new classes", check.scribe.forbid(1, false), false);
        Check.due("sign(0) behind new classes", check.scribe.sign(0), GraphScribe.BAD);
        Check.due("limit(5) behind new classes", check.scribe.limit(5), 4);
        Check.due("make(2)", check.scribe.make(2), 0);
        Check.due("make(3)", check.scribe.make(3), GraphScribe.BAD);
        Check.due("same(0)", check.scribe.same(0), false);
        Check.due("value of a field that is gone", check.scribe.value(0, 0, 0, 0), 0);
        Check.due("fewer classes", check.tellClasses("z()"), 1);
        Check.due("make(1) of fewer classes", check.scribe.make(1), GraphScribe.BAD);
    }

    private static void whatStays() {
        Check check = Check.of("a(x:i);b()");
        check.scribe.make(0);
        check.scribe.set(0, 0, 9);
        check.scribe.write(0, 0);
        check.readText("<a><x>9</x></a>");
        check.scribe.forbid(1, true);
        Check.due("wrong classes", check.tellClasses("q(x:t);a(y:l*)+"), -15);
        Check.due("broken rule", check.tellClasses("q();q()"), -8);
        int[] counts = {2, 1, 1, 14 + 1, 0, 1};
        for (int what = 0; what < counts.length; what++) {
            Check.due("count(" + what + ") behind wrong classes", check.scribe.count(what), counts[what]);
        }
        Check.due("same(0) behind wrong classes", check.scribe.same(0), true);
        Check.due("forbid(1, true) behind wrong classes", check.scribe.forbid(1, true), true);
        Check.due("write behind wrong classes", check.write(0, 0), "<a><x>9</x></a>");
        Check.due("read behind wrong classes", check.readText("<a><y/></a>"), -10004);
    }

    /** Nothing of classes that were told before, rightly or wrongly, is left. */
    private static void toldAgain() {
        String[] texts = {"ab();cd()", "a();a()", "a(n:i,s:t,r:r,l:l*);b(r:r,q:r)", "a();b()", "a(m:l);b()", "a(s:t,n:i);b()"};
        int[] want = {2, -8, 2, 2, 2, 2};
        for (int first = 0; first < 2; first++) {
            Check check = first == 0 ? new Check() : Check.of("zz(class1:i@,l:l*)");
            for (int i = 0; i < texts.length; i++) {
                Check.due("wrong classes", check.tellClasses("ab(class:i@);bc(id:l*)+"), -23);
                Check.due("classes() of " + texts[i], check.tellClasses(texts[i]), want[i]);
                Check.due("count(5) behind " + texts[i], check.scribe.count(5), want[i] > 0 ? 0 : 2);
                check.scribe.forbid(0, true);
                check.scribe.forbid(1, true);
                Check.due("make(0) behind " + texts[i], check.scribe.make(0), want[i] > 0 ? 0 : 2);
                Check.due("make(1) behind " + texts[i], check.scribe.make(1), want[i] > 0 ? 1 : 3);
            }
            Check.due("the objects at first", check.write(0, 0), "<a><s/><n>0</n></a>");
            Check.due("the objects at first", check.write(1, 0), "<b/>");
            Check.due("a field that is no list any more", check.scribe.add(0, 0, 1), GraphScribe.BAD);
            Check.due("a field that is not there any more", check.scribe.set(0, 2, 1), false);
            Check.due("a number that was a text", check.scribe.set(0, 1, 1), true);
        }
    }

    private static void kinds() {
        Check check = Check.of("a(n:i@,s:t@,r:r,l:l*);b(n:i,s:t,m:l)");
        check.scribe.make(0);
        check.scribe.make(1);
        Check.due("set of i@", check.scribe.set(0, 0, 5), true);
        Check.due("text of t@", check.putText(0, 1, "u"), true);
        Check.due("set of r", check.scribe.set(0, 2, 1), true);
        Check.due("add of l*", check.scribe.add(0, 3, 1), 1);
        Check.due("set of i", check.scribe.set(1, 0, 6), true);
        Check.due("text of t", check.putText(1, 1, "v"), true);
        Check.due("add of l", check.scribe.add(1, 2, 0), 1);
        Check.due("write", check.write(0, 2), "<a id=\"1\" n=\"5\" s=\"u\"><r class=\"b\" id=\"2\"><n>6</n><s>v</s>"
                + "<m><a reference=\"1\"/></m></r><b reference=\"2\"/></a>");
    }
}
