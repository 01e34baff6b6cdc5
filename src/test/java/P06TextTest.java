/** Promise 6: what was collected becomes a text of an object. */
public final class P06TextTest {
    public static void main(String[] args) {
        Check check = Check.of("a(s:t,n:i,u:t@,l:l);b(r:r)");
        Scribe scribe = check.scribe;
        scribe.make(0);
        scribe.make(1);
        Check.due("text", check.putText(0, 0, "hello"), true);
        Check.due("text of the field", check.textOf(0, 0, 0), "hello");
        Check.due("count(4) behind text", scribe.count(4), 0);
        Check.due("text of another field", check.textOf(0, 0, 2), "");
        Check.due("shorter text", check.putText(0, 0, "ab"), true);
        Check.due("shorter text", check.textOf(0, 0, 0), "ab");
        Check.due("text of an attribute", check.putText(0, 2, " <&>\"'~"), true);
        Check.due("text of an attribute", check.textOf(0, 0, 2), " <&>\"'~");
        Check.due("20 signs", check.putText(0, 0, "12345678901234567890"), true);
        Check.due("20 signs", check.textOf(0, 0, 0), "12345678901234567890");
        Check.due("21 signs", check.putText(0, 0, "123456789012345678901"), false);
        Check.due("count(4) behind 21 signs", scribe.count(4), 21);
        Check.due("text behind 21 signs", check.textOf(0, 0, 0), "12345678901234567890");
        Check.due("classes behind 21 signs", scribe.classes(), -1);
        lowSigns(check);
        wrongOnes(check);
        Check.due("nothing collected", scribe.text(0, 0), true);
        Check.due("empty text", check.textOf(0, 0, 0), "");
        Check.end();
    }

    private static void lowSigns(Check check) {
        String[] texts = {"\t", "a\nb", "ab\r"};
        for (String text : texts) {
            Check.due("a sign below 32", check.putText(0, 0, text), false);
            Check.due("count(4) behind it", check.scribe.count(4), text.length());
            Check.due("text behind it", check.textOf(0, 0, 0), "12345678901234567890");
            check.scribe.take();
        }
    }

    private static void wrongOnes(Check check) {
        check.collect("xyz");
        int[][] wrong = {{0, 1}, {0, 3}, {0, 4}, {0, -1}, {1, 0}, {1, 1}, {2, 0}, {-1, 0}, {30, 0},
            {Integer.MAX_VALUE, 0}, {Integer.MIN_VALUE, 0}, {0, Integer.MAX_VALUE}, {0, Integer.MIN_VALUE}};
        for (int[] w : wrong) {
            Check.due("text(" + w[0] + ", " + w[1] + ")", check.scribe.text(w[0], w[1]), false);
            Check.due("count(4) behind it", check.scribe.count(4), 3);
        }
        Check.due("text behind wrong ones", check.scribe.text(0, 2), true);
        Check.due("text behind wrong ones", check.textOf(0, 0, 2), "xyz");
    }
}
