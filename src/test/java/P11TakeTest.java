/** Promise 11: what was written is collected, in the place of what was. */
public final class P11TakeTest {
    public static void main(String[] args) {
        Check check = Check.of("a(s:t@)");
        check.collect("rest");
        Check.due("nothing written", check.scribe.take(), 0);
        Check.due("count(4)", check.scribe.count(4), 0);
        check.scribe.make(0);
        check.scribe.write(0, 0);
        check.collect("rest");
        Check.due("take()", check.scribe.take(), 9);
        Check.due("count(4)", check.scribe.count(4), 9);
        Check.due("count(3)", check.scribe.count(3), 9);
        Check.due("what was written stays", check.written(), "<a s=\"\"/>");
        Check.due("text of it", check.scribe.text(0, 0), true);
        Check.due("text of it", check.textOf(0, 0, 0), "<a s=\"\"/>");
        Check.due("take() again", check.scribe.take(), 9);
        check.collect(" ");
        Check.due("count(4) with one more", check.scribe.count(4), 10);
        Check.due("read()", check.scribe.read(), 1);
        Check.due("what was written is as before", check.written(), "<a s=\"\"/>");
        check.scribe.make(0);
        check.scribe.write(0, 0);
        Check.due("take() of another text", check.scribe.take(), "<a s=\"&lt;a s=&quot;&quot;/&gt;\"/>".length());
        Check.due("read() of it", check.scribe.read(), 1);
        Check.due("what was read", check.textOf(1, 0, 0), "<a s=\"\"/>");
        check.scribe.take();
        Check.due("classes() of it", check.scribe.classes(), -1);
        Check.end();
    }
}
