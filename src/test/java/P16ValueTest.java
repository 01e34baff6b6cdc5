/** Promise 16: the value of a field. */
public final class P16ValueTest {
    public static void main(String[] args) {
        Check check = Check.of("a(n:i,s:t,r:r,l:l);b(m:i@,u:t@,k:l*)");
        Scribe scribe = check.scribe;
        scribe.make(0);
        scribe.make(1);
        scribe.set(0, 0, -8);
        check.putText(0, 1, "xyz");
        scribe.set(0, 2, 1);
        scribe.add(0, 3, 1);
        scribe.add(0, 3, 0);
        scribe.set(1, 0, 4);
        check.putText(1, 1, "~");
        scribe.add(1, 2, 0);
        fields(scribe, 0);
        Check.due("read", check.readText("<a><n>-8</n><s>xyz</s><r class='b' m='4' u='~'><a reference='/a'/></r>"
                + "<l><b reference='../../r'/><a reference='/a'/></l></a>"), 2);
        fields(scribe, 1);
        wrongOnes(scribe);
        Check.end();
    }

    private static void fields(Scribe scribe, int heap) {
        int[] places = {0, 1, -1, 5, Integer.MIN_VALUE, Integer.MAX_VALUE};
        for (int i : places) {
            Check.due("number, i " + i, scribe.value(heap, 0, 0, i), -8);
            Check.due("reference, i " + i, scribe.value(heap, 0, 2, i), 1);
            Check.due("number of an attribute, i " + i, scribe.value(heap, 1, 0, i), 4);
        }
        String text = "xyz";
        for (int i = 0; i < 3; i++) {
            Check.due("sign " + i + " of a text", scribe.value(heap, 0, 1, i), text.charAt(i));
        }
        Check.due("object 0 of a list", scribe.value(heap, 0, 3, 0), 1);
        Check.due("object 1 of a list", scribe.value(heap, 0, 3, 1), 0);
        Check.due("sign 0 of an attribute", scribe.value(heap, 1, 1, 0), '~');
        Check.due("object 0 of an implicit list", scribe.value(heap, 1, 2, 0), 0);
        int[] outside = {3, 4, 8, 20, 21, -1, -2, Integer.MIN_VALUE, Integer.MAX_VALUE};
        for (int i : outside) {
            Check.due("sign " + i + " of a text", scribe.value(heap, 0, 1, i), GraphScribe.NONE);
            Check.due("object " + i + " of a list", scribe.value(heap, 0, 3, i), GraphScribe.NONE);
        }
        Check.due("sign 1 of an attribute", scribe.value(heap, 1, 1, 1), GraphScribe.NONE);
        Check.due("object 2 of a list", scribe.value(heap, 0, 3, 2), GraphScribe.NONE);
        Check.due("object 1 of an implicit list", scribe.value(heap, 1, 2, 1), GraphScribe.NONE);
    }

    private static void wrongOnes(Scribe scribe) {
        int[] wrong = {-1, 4, 30, Integer.MIN_VALUE, Integer.MAX_VALUE};
        for (int w : wrong) {
            Check.due("heap " + w, scribe.value(w, 0, 0, 0), 0);
            Check.due("object " + w, scribe.value(0, w, 0, 0), 0);
            Check.due("object " + w + " that was read", scribe.value(1, w, 0, 0), 0);
            Check.due("field " + w, scribe.value(0, 0, w, 0), 0);
            Check.due("field " + w + " that was read", scribe.value(1, 0, w, 0), 0);
        }
        Check.due("heap 2", scribe.value(2, 0, 0, 0), 0);
        Check.due("object 2", scribe.value(0, 2, 0, 0), 0);
        Check.due("field 3 of a class with three", scribe.value(0, 1, 3, 0), 0);
    }
}
