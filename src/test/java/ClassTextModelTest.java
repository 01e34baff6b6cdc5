import java.util.HashSet;
import java.util.Random;
import java.util.Set;
import java.util.regex.Pattern;

/**
 * Texts at random (always the same ones) are told as classes. The first sign that is wrong is found in another way: it
 * is the first with which no text that is right begins, and regular expressions tell which texts are right.
 */
public final class ClassTextModelTest {
    private static final String NAME = "[a-zA-Z_$][a-zA-Z0-9_$]{0,7}";
    private static final String FIELD = NAME + ":(?:[it]@?|r|l\\*?)";
    private static final String CLASS = NAME + "\\((?:" + FIELD + "(?:," + FIELD + "){0,3})?\\)";
    private static final Pattern RIGHT = Pattern.compile(CLASS + "(?:;" + CLASS + "){0,5}");
    private static final Pattern TWO_IMPLICIT = Pattern.compile("\\*[^)]*\\*");
    private static final String[] REST = {"", ")", ":i)", "i)", "a:i)", "()", "a()"};
    private static final String[] PARTS = {"a", "b", "a", "b", "()", "(", ")", ":", ",", ";", "a:i", "b:l*", "c:t@", "a:r", "d:l",
        "i", "t", "r", "l", "@", "*", "abcdefgh", "id", "class", "a()", "b(a:i)", "c(d:l*,e:i)", "_", "$", "9", " ", ");", ",e:i"};

    public static void main(String[] args) {
        Random random = new Random(7);
        int[] found = new int[3];
        for (int i = 0; i < 40000; i++) {
            String text = i % 2 == 0 ? textOfParts(random) : changed(random, classesOf(random));
            int want = answer(text);
            Check.due("classes() of " + text, new Check().tellClasses(text), want);
            found[want > 0 ? 0 : want == -1 - text.length() ? 1 : 2]++;
        }
        for (int kind = 0; kind < found.length; kind++) {
            Check.due("many texts of each kind", found[kind] > 1000, true);
        }
        Check.end();
    }

    private static String textOfParts(Random random) {
        StringBuilder text = new StringBuilder();
        for (int i = random.nextInt(9); i >= 0; i--) {
            text.append(PARTS[random.nextInt(PARTS.length)]);
        }
        return text.toString();
    }

    private static String classesOf(Random random) {
        String[] names = {"a", "b", "c", "d", "e", "f", "g", "h", "Id", "_x$9", "abcdefgh", "id", "class"};
        String[] kinds = {"i", "t", "r", "l", "i@", "t@", "l*", "l"};
        StringBuilder text = new StringBuilder();
        int classes = 1 + random.nextInt(random.nextInt(4) == 0 ? 7 : 3);
        for (int c = 0; c < classes; c++) {
            text.append(c == 0 ? "" : ";").append(names[random.nextInt(3) == 0 ? random.nextInt(names.length) : c]).append("(");
            int fields = random.nextInt(random.nextInt(6) == 0 ? 6 : 4);
            for (int f = 0; f < fields; f++) {
                text.append(f == 0 ? "" : ",").append(names[random.nextInt(4) == 0 ? random.nextInt(names.length) : 3 + f])
                        .append(":").append(kinds[random.nextInt(kinds.length)]);
            }
            text.append(")");
        }
        return text.toString();
    }

    /** A text with one sign changed, left out or put in, or none, or cut off. */
    private static String changed(Random random, String text) {
        int at = random.nextInt(text.length());
        char u = "ab9_$(),;:itrl@* -".charAt(random.nextInt(18));
        switch (random.nextInt(5)) {
            case 0:
                return text.substring(0, at) + u + text.substring(at + 1);
            case 1:
                return text.substring(0, at) + text.substring(at + 1);
            case 2:
                return text.substring(0, at) + u + text.substring(at);
            case 3:
                return text.substring(0, at);
            default:
                return text;
        }
    }

    private static int answer(String text) {
        for (int i = 0; i < text.length(); i++) {
            if (!begins(text.substring(0, i + 1))) {
                return -1 - i;
            }
        }
        return isRight(text) && areNamesRight(text) ? text.split(";").length : -1 - text.length();
    }

    private static boolean isRight(String text) {
        return RIGHT.matcher(text).matches() && !TWO_IMPLICIT.matcher(text).find();
    }

    private static boolean begins(String part) {
        for (String rest : REST) {
            if (isRight(part + rest)) {
                return true;
            }
        }
        return false;
    }

    private static boolean areNamesRight(String text) {
        Set<String> classes = new HashSet<>();
        for (String told : text.split(";")) {
            if (!classes.add(told.substring(0, told.indexOf('(')))) {
                return false;
            }
        }
        for (String told : text.split(";")) {
            Set<String> names = new HashSet<>(Set.of("class", "id", "reference"));
            if (told.contains("*")) {
                names.addAll(classes);
            }
            String fields = told.substring(told.indexOf('(') + 1, told.length() - 1);
            for (String field : fields.isEmpty() ? new String[0] : fields.split(",")) {
                if (!names.add(field.substring(0, field.indexOf(':')))) {
                    return false;
                }
            }
        }
        return true;
    }
}
