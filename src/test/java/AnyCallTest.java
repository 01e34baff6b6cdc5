import java.util.Random;

/** Any call with any argument in any state is answered: nothing is thrown, and the answers stay within their bounds. */
public final class AnyCallTest {
    private static final int[] EDGES = {Integer.MIN_VALUE, -3, -2, -1, 0, 1, 2, 3, 4, 5, 6, 7, 8, 20, 21, 29, 30, 31, 32,
        200, 3000, 3001, Integer.MAX_VALUE};
    private static final String[] TEXTS = {"a(l:l*,n:i@,s:t);b(r:r,q:l)", "a(x:i,s:t,l:l,r:r);b(a:r)", "a(", "n()",
        "<a/>", "<a n='1'><s>x</s><b/><a reference='/a'/></a>", "<a><l><b/><b reference='../b'/></l></a>", "<a><", "<b>&",
        "<a><r class='b'><a reference='../..'/></r></a>", "xyz", "\t"};

    private static final int MOST_CALLS_AT_ONCE = 60;

    private final Random random;
    private final Check check = new Check();
    private final Scribe scribe = check.scribe;

    private AnyCallTest(long seed) {
        random = new Random(seed);
    }

    public static void main(String[] args) {
        for (int seed = 0; seed < 500; seed++) {
            AnyCallTest test = new AnyCallTest(seed);
            for (int i = 0; i < 400 && test.scribe.left() > MOST_CALLS_AT_ONCE; i++) {
                test.call();
            }
        }
        Check.end();
    }

    private int any() {
        return random.nextInt(4) == 0 ? EDGES[random.nextInt(EDGES.length)] : random.nextInt(4);
    }

    private void call() {
        switch (random.nextInt(17)) {
            case 0:
                scribe.unit(random.nextInt(200) - 20);
                break;
            case 1:
                within("classes()", scribe.classes(), -3001, 6);
                break;
            case 2:
            case 3:
                within("make", scribe.make(any()), -1, 29);
                break;
            case 4:
                scribe.set(any(), any(), any());
                break;
            case 5:
                scribe.text(any(), any());
                break;
            case 6:
                within("add", scribe.add(any(), any(), any()), -1, 8);
                break;
            case 7:
                within("limit", scribe.limit(any()), -1, 20);
                break;
            case 8:
                within("write", scribe.write(any(), any()), -4, 3000);
                break;
            case 9:
                within("sign", scribe.sign(any()), -1, 126);
                break;
            case 10:
                within("take", scribe.take(), 0, 3000);
                break;
            case 11:
                scribe.forbid(any(), random.nextBoolean());
                break;
            case 12:
                within("read", scribe.read(), -13001, 30);
                break;
            case 13:
                scribe.same(any());
                break;
            case 14:
                within("kind", scribe.kind(any(), any()), -1, 5);
                break;
            case 15:
                scribe.value(any(), any(), any(), any());
                within("count", scribe.count(any()), -1, 3000);
                break;
            default:
                collectWhole(TEXTS[random.nextInt(TEXTS.length)]);
        }
    }

    private void collectWhole(String text) {
        for (int i = 0; i < text.length(); i++) {
            scribe.unit(text.charAt(i));
        }
        if (text.charAt(0) != '<' && random.nextBoolean()) {
            scribe.classes();
        } else if (random.nextBoolean()) {
            scribe.read();
        }
    }

    private static void within(String what, int got, int least, int most) {
        Check.due(what + " answered " + got + ", within its bounds", got >= least && got <= most, true);
    }
}
