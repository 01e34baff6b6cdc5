/** The edges of promises 4 to 7 and of THE HEAP. */
public final class Edge04HeapTest {
    private static final int MIN = Integer.MIN_VALUE;
    private static final int MAX = Integer.MAX_VALUE;

    public static void main(String[] args) {
        makeOfNoClass();
        mostObjects();
        firstValues();
        numbers();
        references();
        setOfNoObject();
        setOfNoField();
        setOfAnotherKind();
        setToNoTarget();
        mostSigns();
        tooManySigns();
        firstAndLastSigns();
        signsBelow32();
        textOfNone();
        noSigns();
        mostOfList();
        oneTwice();
        addToNone();
        addOfNoTarget();
        Check.end();
    }

    /** make: "BAD: none such" */
    private static void makeOfNoClass() {
        int[] none = {-1, 3, 4, 6, MIN, MAX};
        for (int cls : none) {
            Edge.refused("make(" + cls + ")", GraphScribe.BAD, s -> s.make(cls));
        }
        Check check = Edge.full();
        Check.due("make(2), the last class", check.scribe.make(2), 3);
        Check.due("kind", check.scribe.kind(0, 3), 2);
        Check.due("make(0), the first class", check.scribe.make(0), 4);
        Check.due("kind", check.scribe.kind(0, 4), 0);
    }

    /** "THE HEAP has at most 30 OBJECTS"; make: "BAD: .. there are 30" */
    private static void mostObjects() {
        Check check = Edge.fullAndCollected();
        for (int i = 3; i < 30; i++) {
            Check.due("make of object " + i, check.scribe.make(i % 3), i);
        }
        Check.due("count(1)", check.scribe.count(1), 30);
        Check.due("kind of the 30th", check.scribe.kind(0, 29), 2);
        Edge.unchanged("the 31st", check, GraphScribe.BAD, s -> s.make(0));
        Edge.unchanged("the 31st", check, GraphScribe.BAD, s -> s.make(2));
        Check.due("a reference to the 30th", check.scribe.set(0, 2, 29), true);
        Check.due("a reference to a 31st", check.scribe.set(0, 2, 30), false);
        Check.due("the 30th in a list", check.scribe.add(0, 3, 29), 3);
        Check.due("a 31st in a list", check.scribe.add(0, 3, 30), GraphScribe.BAD);
        Check.due("a number of the last a", check.scribe.set(27, 0, 5), true);
        Check.due("a number of the last a", check.scribe.value(0, 27, 0, 0), 5);
        Check.due("x() was collected, so two classes", check.tellClasses(";z()"), 2);
        Check.due("make behind new classes", check.scribe.make(0), 0);
    }

    /** "numbers are ints, 0 at first; texts .. none at first; references lead .. to none; lists" are empty. */
    private static void firstValues() {
        Check check = Edge.full();
        Check.due("make(0)", check.scribe.make(0), 3);
        Check.due("make(1)", check.scribe.make(1), 4);
        Check.due("number", check.scribe.value(0, 3, 0, 0), 0);
        Check.due("text", check.scribe.value(0, 3, 1, 0), GraphScribe.NONE);
        Check.due("reference", check.scribe.value(0, 3, 2, 0), GraphScribe.NONE);
        Check.due("list", check.scribe.value(0, 3, 3, 0), GraphScribe.NONE);
        Check.due("number that is an attribute", check.scribe.value(0, 4, 0, 0), 0);
        Check.due("text that is an attribute", check.scribe.value(0, 4, 1, 0), GraphScribe.NONE);
        Check.due("implicit list", check.scribe.value(0, 4, 2, 0), GraphScribe.NONE);
    }

    /** "numbers are ints" */
    private static void numbers() {
        int[] numbers = {MIN, MIN + 1, -2, -1, 0, 1, MAX - 1, MAX};
        for (int v : numbers) {
            Check check = Edge.full();
            Check.due("set(0, 0, " + v + ")", check.scribe.set(0, 0, v), true);
            Check.due("number", check.scribe.value(0, 0, 0, 0), v);
            Check.due("set(1, 0, " + v + ")", check.scribe.set(1, 0, v), true);
            Check.due("number that is an attribute", check.scribe.value(0, 1, 0, 0), v);
        }
    }

    /** "references lead to an object or to none"; set: "a reference (an object, NONE)" */
    private static void references() {
        Check check = Edge.full();
        int[] targets = {0, 1, 2, GraphScribe.NONE, 0, GraphScribe.NONE, GraphScribe.NONE};
        for (int target : targets) {
            Check.due("set(0, 2, " + target + ")", check.scribe.set(0, 2, target), true);
            Check.due("reference", check.scribe.value(0, 0, 2, 0), target);
        }
    }

    /** set: "False: none such object" */
    private static void setOfNoObject() {
        int[] none = {-1, -2, 3, 29, 30, MIN, MAX};
        for (int object : none) {
            Edge.refused("set(" + object + ", 0, 1)", 0, s -> Edge.is(s.set(object, 0, 1)));
            Edge.refused("set(" + object + ", 2, 1)", 0, s -> Edge.is(s.set(object, 2, 1)));
        }
    }

    /** set: "False: none such .. field" */
    private static void setOfNoField() {
        int[] none = {-1, 4, 5, MIN, MAX};
        for (int field : none) {
            Edge.refused("set(0, " + field + ", 1)", 0, s -> Edge.is(s.set(0, field, 1)));
        }
        Edge.refused("set(1, 3, 1)", 0, s -> Edge.is(s.set(1, 3, 1)));
        Edge.refused("set(1, -1, 1)", 0, s -> Edge.is(s.set(1, -1, 1)));
        Edge.refused("set(2, 0, 1)", 0, s -> Edge.is(s.set(2, 0, 1)));
    }

    /** set: "False: none such .. field of these kinds" */
    private static void setOfAnotherKind() {
        Edge.refused("set of a text", 0, s -> Edge.is(s.set(0, 1, 1)));
        Edge.refused("set of a list", 0, s -> Edge.is(s.set(0, 3, 1)));
        Edge.refused("set of a list", 0, s -> Edge.is(s.set(0, 3, GraphScribe.NONE)));
        Edge.refused("set of a text that is an attribute", 0, s -> Edge.is(s.set(1, 1, 1)));
        Edge.refused("set of an implicit list", 0, s -> Edge.is(s.set(1, 2, 0)));
    }

    /** set: "False: none such .. target" */
    private static void setToNoTarget() {
        int[] none = {-1, -3, 3, 29, 30, MIN, MAX};
        for (int target : none) {
            Edge.refused("set(0, 2, " + target + ")", 0, s -> Edge.is(s.set(0, 2, target)));
        }
    }

    /** "texts have at most 20 signs" */
    private static void mostSigns() {
        Check check = Edge.full();
        String twenty = "abcdefghijklmnopqrst";
        Check.due("20 signs", check.putText(0, 1, twenty), true);
        Check.due("20 signs", check.textOf(0, 0, 1), twenty);
        Check.due("what was collected is gone", check.scribe.count(4), 0);
        Check.due("the last of them", check.scribe.value(0, 0, 1, 19), 't');
        Check.due("behind it", check.scribe.value(0, 0, 1, 20), GraphScribe.NONE);
        Check.due("20 signs of an attribute", check.putText(1, 1, twenty), true);
        Check.due("20 signs of an attribute", check.textOf(0, 1, 1), twenty);
        Check.due("the number beside it", check.scribe.value(0, 1, 0, 0), 7);
        Check.due("the list beside it", check.scribe.value(0, 1, 2, 0), 0);
    }

    /** text: "False: .. more than 20 signs .. it stays collected then" */
    private static void tooManySigns() {
        Check check = Edge.full();
        check.collect("abcdef(abcdefg:i,b:i)");
        Check.due("count(4)", check.scribe.count(4), 21);
        Edge.unchanged("21 signs", check, 0, s -> Edge.is(s.text(0, 1)));
        Edge.unchanged("21 signs of an attribute", check, 0, s -> Edge.is(s.text(1, 1)));
        Check.due("they become classes", check.scribe.classes(), 1);
        Check more = Edge.ofLength(0);
        more.scribe.write(0, 3);
        more.scribe.take();
        Edge.unchanged("3,000 signs", more, 0, s -> Edge.is(s.text(2, 0)));
        Check.due("they are read", more.scribe.read(), 24);
    }

    /** "signs 32 .. 126" */
    private static void firstAndLastSigns() {
        Check check = Edge.full();
        Check.due("signs 32, 33, 125 and 126", check.putText(0, 1, " !}~"), true);
        Check.due("signs 32, 33, 125 and 126", check.textOf(0, 0, 1), " !}~");
    }

    /** text: "False: .. or one below 32: it stays collected then" */
    private static void signsBelow32() {
        String[] texts = {"\t", "\n", "\r", "<a/>\n", "\r<a/>", "<a\t/>"};
        for (String text : texts) {
            Check check = Edge.full();
            check.collect(text);
            Edge.unchanged("a sign below 32", check, 0, s -> Edge.is(s.text(0, 1)));
            Edge.unchanged("a sign below 32", check, 0, s -> Edge.is(s.text(1, 1)));
            Check.due("it is read", check.scribe.read(), text.length() > 1 ? 1 : -2);
        }
    }

    /** text: "False: none such object, field .. it stays collected then" */
    private static void textOfNone() {
        int[][] none = {{-1, 1}, {3, 1}, {30, 1}, {MIN, 1}, {MAX, 1}, {0, -1}, {0, 4}, {0, MIN}, {0, MAX}, {1, 3}, {2, 0},
            {0, 0}, {0, 2}, {0, 3}, {1, 0}, {1, 2}};
        for (int[] n : none) {
            Edge.refused("text(" + n[0] + ", " + n[1] + ")", 0, s -> Edge.is(s.text(n[0], n[1])));
        }
    }

    /** "texts have at most 20 signs": none is a text, too. */
    private static void noSigns() {
        Check check = Edge.full();
        Check.due("text of nothing", check.scribe.text(0, 1), true);
        Check.due("the text", check.textOf(0, 0, 1), "");
        Check.due("one sign", check.putText(0, 1, "x"), true);
        Check.due("the text", check.textOf(0, 0, 1), "x");
    }

    /** "lists have at most 8 objects"; add: "BAD: .. it has 8" */
    private static void mostOfList() {
        Check check = Edge.fullAndCollected();
        for (int i = 3; i <= 8; i++) {
            Check.due("add, the " + i + "th", check.scribe.add(0, 3, i % 3), i);
        }
        Check.due("the eighth", check.scribe.value(0, 0, 3, 7), 2);
        Edge.unchanged("the ninth", check, GraphScribe.BAD, s -> s.add(0, 3, 1));
        for (int i = 2; i <= 8; i++) {
            Check.due("add to an implicit list, the " + i + "th", check.scribe.add(1, 2, 2), i);
        }
        Edge.unchanged("the ninth of an implicit list", check, GraphScribe.BAD, s -> s.add(1, 2, 0));
    }

    /** "(one of them may be there twice)" */
    private static void oneTwice() {
        Check check = Edge.full();
        Check.due("add of one that is there", check.scribe.add(0, 3, 1), 3);
        Check.due("add of itself once more", check.scribe.add(0, 3, 0), 4);
        Check.due("the list", State.cells(check.scribe, 0, 0, 3).toString(), "[1, 0, 1, 0]");
    }

    /** add: "BAD: none such" object, field, list */
    private static void addToNone() {
        int[][] none = {{-1, 3}, {3, 3}, {30, 3}, {MIN, 3}, {MAX, 3}, {0, -1}, {0, 4}, {0, MIN}, {0, MAX}, {1, 3}, {2, 0},
            {0, 0}, {0, 1}, {0, 2}, {1, 0}, {1, 1}};
        for (int[] n : none) {
            Edge.refused("add(" + n[0] + ", " + n[1] + ", 1)", GraphScribe.BAD, s -> s.add(n[0], n[1], 1));
        }
    }

    /** add: "BAD: none such" target */
    private static void addOfNoTarget() {
        int[] none = {-1, GraphScribe.NONE, -3, 3, 29, 30, MIN, MAX};
        for (int target : none) {
            Edge.refused("add(0, 3, " + target + ")", GraphScribe.BAD, s -> s.add(0, 3, target));
            Edge.refused("add(1, 2, " + target + ")", GraphScribe.BAD, s -> s.add(1, 2, target));
        }
    }
}
