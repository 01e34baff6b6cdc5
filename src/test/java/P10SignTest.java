/** Promise 10: the signs of what was written. */
public final class P10SignTest {
    public static void main(String[] args) {
        Check check = Check.of("a(s:t@)");
        Check.due("nothing written", check.scribe.sign(0), GraphScribe.BAD);
        check.scribe.make(0);
        check.putText(0, 0, "~ !");
        String want = "<a s=\"~ !\"/>";
        Check.due("write", check.scribe.write(0, 0), want.length());
        for (int i = 0; i < want.length(); i++) {
            Check.due("sign(" + i + ")", check.scribe.sign(i), want.charAt(i));
        }
        int[] wrong = {-1, want.length(), want.length() + 1, 3000, Integer.MIN_VALUE, Integer.MAX_VALUE};
        for (int i : wrong) {
            Check.due("sign(" + i + ")", check.scribe.sign(i), GraphScribe.BAD);
        }
        check.putText(0, 0, "");
        Check.due("a shorter text", check.scribe.write(0, 0), 9);
        Check.due("sign(8) of a shorter text", check.scribe.sign(8), '>');
        Check.due("sign(9) of a shorter text", check.scribe.sign(9), GraphScribe.BAD);
        check.collect("zzz");
        Check.due("collecting changes nothing", check.scribe.sign(0), '<');
        Check.end();
    }
}
