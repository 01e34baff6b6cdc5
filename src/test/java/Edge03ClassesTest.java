/** The edges of promise 3, of NAMES and of CLASSES. */
public final class Edge03ClassesTest {
    private static final String BLANKS = " \t\n\r";

    public static void main(String[] args) {
        lengthsOfNames();
        signsOfNames();
        noFigureFirst();
        namesInXml();
        noText();
        mostClasses();
        mostFields();
        kinds();
        attributes();
        implicitLists();
        noBlanks();
        endsTooEarly();
        differentClasses();
        differentFields();
        namesThatNoFieldHas();
        namesOfClassesAsFields();
        whatIsGone();
        whatStays();
        nothingOfWrongClasses();
        Check.end();
    }

    /** "NAMES are 1 .. 8"; "of a ninth sign of a name itself" */
    private static void lengthsOfNames() {
        Edge.wrongClasses("^()");
        Edge.wrongClasses("a();^()");
        Edge.wrongClasses("a(^:i)");
        Edge.rightClasses("z()", 1);
        Edge.rightClasses("abcdefgh(ijklmnop:i)", 1);
        Edge.wrongClasses("abcdefgh^i()");
        Edge.wrongClasses("abcdefgh^ij()");
        Edge.wrongClasses("abcdefgh^i");
        Edge.wrongClasses("abcdefgh^9()");
        Edge.wrongClasses("a(abcdefgh^i:i)");
        Edge.wrongClasses("a();abcdefgh^i()");
    }

    /** "of a .. z, A .. Z, 0 .. 9, _ and $" */
    private static void signsOfNames() {
        for (char u = 32; u <= 126; u++) {
            boolean letter = u >= 'a' && u <= 'z' || u >= 'A' && u <= 'Z' || u == '_' || u == '$';
            boolean figure = u >= '0' && u <= '9';
            told(u + "()", letter ? 1 : -1);
            told("q" + u + "()", letter || figure ? 1 : u == '(' ? -3 : -2);
            told("q(" + u + ":i)", letter ? 1 : u == ')' ? -4 : -3);
            told("q(q" + u + ":i)", letter || figure ? 1 : u == ':' ? -5 : -4);
        }
    }

    private static void told(String text, int want) {
        Check.due("classes() of " + text, new Check().tellClasses(text), want);
    }

    /** "no figure first" */
    private static void noFigureFirst() {
        Edge.wrongClasses("^0()");
        Edge.wrongClasses("^9a()");
        Edge.wrongClasses("a(^1:i)");
        Edge.wrongClasses("a();^2b()");
        Edge.rightClasses("a0(b9:i)", 1);
    }

    /** "In XML a _ is written as two, a $ as _-." */
    private static void namesInXml() {
        Check check = Edge.rightClasses("$$$$$$$$(________:i,a_$b:t@)", 1);
        check.scribe.make(0);
        String name = "_-".repeat(8);
        String field = "_".repeat(16);
        String text = "<" + name + " a___-b=\"\"><" + field + ">0</" + field + "></" + name + ">";
        Check.due("the longest names", check.write(0, 0), text);
        check.scribe.take();
        Check.due("read() of them", check.scribe.read(), 1);
        Check.due("same(0)", check.scribe.same(0), true);
        Check.due("read() of a name that is not so", check.readText("<$/>"), -2);
        Check.due("read() of a name that is shorter", check.readText("<" + "_-".repeat(7) + "/>"), -10001);
    }

    /** "a class, and any number of times ; and a class": no text is none. */
    private static void noText() {
        Edge.wrongClasses("^");
        Edge.wrongClasses("^;");
        Edge.wrongClasses("a();^");
        Edge.wrongClasses("a();^;b()");
        Edge.wrongClasses("a()^,b()");
    }

    /** "at most 6"; "of a seventh class .. the ; .. before it" */
    private static void mostClasses() {
        Edge.rightClasses("a()", 1);
        Check check = Edge.rightClasses("a();b();c();d();e();f()", 6);
        Check.due("make(5)", check.scribe.make(5), 0);
        Check.due("the sixth class", check.write(0, 0), "<f/>");
        Edge.wrongClasses("a();b();c();d();e();f()^;g()");
        Edge.wrongClasses("a();b();c();d();e();f()^;g");
        Edge.wrongClasses("a();b();c();d();e();f()^;a()");
        Edge.wrongClasses("a();b();c();d();e();f()^;9()");
        Edge.wrongClasses("a();b();c();d();e();f()^g()");
    }

    /** "nothing or a field and any number of times , and a field (4 at most)"; "a fifth field the .. , before it" */
    private static void mostFields() {
        Edge.rightClasses("a()", 1);
        Check check = Edge.rightClasses("a(p:i,q:i,r:i,s:i);b(t:i,u:i,v:i,w:i)", 2);
        check.scribe.make(1);
        Check.due("the fourth field", check.scribe.set(0, 3, 9), true);
        Check.due("write", check.write(0, 0), "<b><t>0</t><u>0</u><v>0</v><w>9</w></b>");
        Edge.wrongClasses("a(p:i,q:i,r:i,s:i^,t:i)");
        Edge.wrongClasses("a(p:i,q:i,r:i,s:i^,p:i)");
        Edge.wrongClasses("a(p:i,q:i,r:i,s:i^,)");
        Edge.wrongClasses("a();b(p:i,q:i,r:i,s:i@^,t:i)");
        Edge.wrongClasses("a(p:i,^)");
        Edge.wrongClasses("a(^,p:i)");
        Edge.wrongClasses("a(p:i^;q:i)");
    }

    /** "its KIND: i a number, t a text, r a reference, l a list" */
    private static void kinds() {
        Edge.rightClasses("a(p:i,q:t,r:r,s:l)", 1);
        for (char u = 32; u <= 126; u++) {
            told("a(p:" + u + ")", "itrl".indexOf(u) >= 0 ? 1 : -5);
        }
        Edge.wrongClasses("a(p:^)");
        Edge.wrongClasses("a(p^)");
        Edge.wrongClasses("a(p:i^t)");
    }

    /** "@ (of i, t: an ATTRIBUTE)"; "an @ behind r or l: itself" */
    private static void attributes() {
        Edge.rightClasses("a(p:i@,q:t@,r:i,s:t)", 1);
        Edge.wrongClasses("a(p:r^@)");
        Edge.wrongClasses("a(p:l^@)");
        Edge.wrongClasses("a(p:l*^@)");
        Edge.wrongClasses("a(p:i@^@)");
        Edge.wrongClasses("a(p:t@^*)");
    }

    /** "or * (of l, at most one of a class: IMPLICIT)"; "a second *" */
    private static void implicitLists() {
        Edge.rightClasses("a(p:l*);b(p:l*)", 2);
        Edge.rightClasses("a(p:l,q:l*,r:l)", 1);
        Edge.wrongClasses("a(p:l*,q:l^*)");
        Edge.wrongClasses("a(p:l*,q:i,r:l,s:l^*)");
        Edge.wrongClasses("a(p:l*^*)");
        Edge.wrongClasses("a();b(p:l*,q:l^*);c()");
        Edge.wrongClasses("a(p:i^*)");
        Edge.wrongClasses("a(p:t^*)");
        Edge.wrongClasses("a(p:r^*)");
    }

    /** "No blanks." */
    private static void noBlanks() {
        String text = "ab(xy:i@,l:l*);b()";
        for (int i = 0; i <= text.length(); i++) {
            for (char blank : BLANKS.toCharArray()) {
                told(text.substring(0, i) + blank + text.substring(i), -1 - i);
            }
        }
        Edge.wrongClasses("a(x:i,^ y:i)");
    }

    /** "if it ends too early .. the one behind the last" */
    private static void endsTooEarly() {
        String text = "ab(xy:i@,l:l*);b()";
        for (int i = 0; i < text.length(); i++) {
            told(text.substring(0, i), text.charAt(Math.max(0, i - 1)) == ')' ? 1 : -1 - i);
        }
        Edge.wrongClasses("a^");
        Edge.wrongClasses("a(^");
        Edge.wrongClasses("a(x:i^");
    }

    /** "Names of classes are different"; "or a rule on names is broken, the one behind the last" */
    private static void differentClasses() {
        Edge.wrongClasses("a();a()^");
        Edge.wrongClasses("a();b();c();d();e();a()^");
        Edge.wrongClasses("b();a(x:i);a(y:i)^");
        Edge.wrongClasses("ab();cd();ab()^");
        Edge.wrongClasses("abcdefg_();abcdefg_()^");
        Edge.rightClasses("a();A();a0();aa();_();__()", 6);
        Edge.rightClasses("abcdefgh();abcdefgi();bbcdefgh()", 3);
        Edge.wrongClasses("a();a();b(^");
        Edge.wrongClasses("a();a()^)");
    }

    /** "those of a class's fields, too" */
    private static void differentFields() {
        Edge.wrongClasses("a(x:i,x:i)^");
        Edge.wrongClasses("a(x:i@,y:t,z:r,x:l)^");
        Edge.wrongClasses("b();a(p:i,x:i,x:t);c()^");
        Edge.wrongClasses("a(xy:i,x:i,xy:t)^");
        Edge.wrongClasses("a(p:i);b(q:i,abcdefg$:i,abcdefg$:t)^");
        Edge.rightClasses("a(x:i,X:i,x0:i,xx:i);b(x:t)", 2);
        Edge.wrongClasses("a(x:i,x:i);b(^,");
    }

    /** "a field is not named class, id or reference" (which has a ninth sign) */
    private static void namesThatNoFieldHas() {
        Edge.wrongClasses("a(class:i)^");
        Edge.wrongClasses("a(x:i,class:t@)^");
        Edge.wrongClasses("a();b(x:i,y:i,z:i,class:l*)^");
        Edge.wrongClasses("a(id:r)^");
        Edge.wrongClasses("a();b(x:i,id:i@)^");
        Edge.wrongClasses("a(referenc^e:i)");
        Edge.rightClasses("a(clas:i,classs:i,Class:i,clasS:i);b(i:i,idd:i,Id:i,iD:i);c(referenc:i,d:i,di:i)", 3);
        Edge.rightClasses("class();id();referenc()", 3);
    }

    /** "a class with an implicit list has no field with the name of a class" */
    private static void namesOfClassesAsFields() {
        Edge.wrongClasses("a(l:l*,b:i);b()^");
        Edge.wrongClasses("b();a(l:l*,b:i)^");
        Edge.wrongClasses("a(b:t@,l:l*);b()^");
        Edge.wrongClasses("a(l:l*,b:r);b()^");
        Edge.wrongClasses("a(l:l*,x:i,y:i,b:l);b()^");
        Edge.wrongClasses("a(b:l*);b()^");
        Edge.wrongClasses("a(a:l*)^");
        Edge.wrongClasses("a(l:l*,a:i)^");
        Edge.wrongClasses("a(l:l*,f:i);b();c();d();e();f()^");
        Edge.wrongClasses("a(l:l*,bc:i);bc()^");
        Edge.wrongClasses("$bcdefgh();a(x:i,$bcdefgh:i,l:l*)^");
        Edge.rightClasses("a(l:l,b:i,a:r);b()", 2);
        Edge.rightClasses("a(l:l*,bb:i);b();c(a:i,b:i)", 3);
        Edge.rightClasses("a(l:l*,bc:i);b();cc();Bc()", 4);
    }

    /** "What was collected becomes the classes, and is gone; the heap, what was written and read, and forbidding are gone" */
    private static void whatIsGone() {
        Check check = Edge.full();
        Check.due("classes()", check.tellClasses("q(x:t);r();s()"), 3);
        Check.due("classes", check.scribe.count(0), 3);
        Check.due("objects", check.scribe.count(1), 0);
        Check.due("objects of the read heap", check.scribe.count(2), 0);
        Check.due("signs written", check.scribe.count(3), 0);
        Check.due("signs collected", check.scribe.count(4), 0);
        Check.due("forbidden classes", check.scribe.count(5), 0);
        Check.due("kind(0, 0)", check.scribe.kind(0, 0), GraphScribe.BAD);
        Check.due("kind(1, 0)", check.scribe.kind(1, 0), GraphScribe.BAD);
        Check.due("value(0, 0, 0, 0)", check.scribe.value(0, 0, 0, 0), 0);
        Check.due("value(1, 0, 0, 0)", check.scribe.value(1, 0, 0, 0), 0);
        Check.due("sign(0)", check.scribe.sign(0), GraphScribe.BAD);
        Check.due("take()", check.scribe.take(), 0);
        Check.due("same(0)", check.scribe.same(0), false);
        Check.due("make(2), which was forbidden", check.scribe.make(2), 0);
        Check.due("same(0), nothing was read", check.scribe.same(0), false);
        Check.due("read of a class that was forbidden", check.readText("<s/>"), 1);
        Check.due("same(0)", check.scribe.same(0), true);
        Check.due("a class that was before", check.readText("<a/>"), -10001);
        Check.due("LIMIT", check.scribe.limit(8), 7);
    }

    /** "all else stays, but what was collected" */
    private static void whatStays() {
        String[] texts = {"", "x", "x(p:i", "x();x()", "a(class:i)", "abcdefghi()", "a(p:l*,q:l*)", "a(p:r@)",
            "a();b();c();d();e();f();g()", "a(p:i,q:i,r:i,s:i,t:i)", "x(p:i)+"};
        for (String text : texts) {
            Check check = Edge.full();
            State before = new State(check.scribe);
            Check.due("classes() of " + text, check.tellClasses(text) < 0, true);
            before.dueNow("classes() of " + text, check.scribe);
            Check.due("classes() behind " + text, check.scribe.classes(), -1);
        }
        Check without = new Check();
        Check.due("classes() of a", without.tellClasses("a"), -2);
        Check.due("count(0)", without.scribe.count(0), 0);
        Check.due("count(4)", without.scribe.count(4), 0);
        Check.due("read() without classes still", without.scribe.read(), -3001);
    }

    /** Classes that were wrong are not seen in the next that are right. */
    private static void nothingOfWrongClasses() {
        Check check = Check.of("a()");
        Check.due("wrong", check.tellClasses("q(x:l*,y:i@,z:r,w:t);r()+"), -25);
        Check.due("right", check.tellClasses("q(x:l,y:i,z:t,w:r)"), 1);
        check.scribe.make(0);
        Check.due("its object", check.write(0, 0), "<q><x/><y>0</y><z/></q>");
        Check.due("its reference", check.scribe.value(0, 0, 3, 0), GraphScribe.NONE);
        Check.due("its number", check.scribe.value(0, 0, 1, 0), 0);
    }
}
