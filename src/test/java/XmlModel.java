import java.util.ArrayDeque;
import java.util.ArrayList;
import java.util.Deque;
import java.util.LinkedHashMap;
import java.util.List;
import java.util.Map;
import java.util.regex.Matcher;
import java.util.regex.Pattern;

/**
 * A text read as XML in another way than the program's: regular expressions tell which pieces are right, and of a piece
 * that is not, how many of its first signs a right one may begin with.
 */
final class XmlModel {
    /** An element with its own text, entities and CDATA decoded, comments left out. */
    static final class Node {
        final int begin;
        final String name;
        final Node parent;
        final Map<String, String> attributes = new LinkedHashMap<>();
        final List<Node> children = new ArrayList<>();
        final StringBuilder text = new StringBuilder();

        Node(int begin, String name, Node parent) {
            this.begin = begin;
            this.name = name;
            this.parent = parent;
        }

        /** How many elements there are from the root to this one, both too. */
        int depth() {
            return parent == null ? 1 : 1 + parent.depth();
        }
    }

    private static final String NAME = "[A-Za-z_][A-Za-z0-9_.-]*";
    private static final String ENTITY = "&(?:amp|lt|gt|quot|apos|#[0-9]{1,6}|#x[0-9a-fA-F]{1,6});";
    private static final String BLANK = "[ \\t\\n\\r]";
    private static final String VALUE = "(?:\"(?:[^<&\"]|" + ENTITY + ")*\"|'(?:[^<&']|" + ENTITY + ")*')";
    private static final Pattern START = Pattern.compile("<" + NAME + "(?:" + BLANK + "+" + NAME + "=" + VALUE + ")*" + BLANK + "*/?>");
    private static final Pattern END = Pattern.compile("</" + NAME + BLANK + "*>");
    private static final Pattern COMMENT = Pattern.compile("<!--(?:[^-]|-[^-])*-->");
    private static final Pattern CDATA = Pattern.compile("<!\\[CDATA\\[(?:[^\\]]|\\](?!\\]>))*\\]\\]>");
    private static final Pattern TEXT = Pattern.compile("[^<&]+");
    private static final Pattern ONE_ENTITY = Pattern.compile(ENTITY);
    private static final Pattern BLANKS = Pattern.compile(BLANK + "*");
    private static final Pattern ATTRIBUTE = Pattern.compile(BLANK + "(" + NAME + ")(=(" + VALUE + ")?)?");
    private static final Pattern OPEN_ENTITY = Pattern.compile("&[^;]*$");

    private final String whole;
    private final Deque<Node> open = new ArrayDeque<>();
    /** In the order of their beginning. */
    final List<Node> nodes = new ArrayList<>();
    /** The number of the first wrong sign, or -1. */
    final int wrong;

    XmlModel(String whole) {
        this.whole = whole;
        this.wrong = firstWrong();
    }

    private int firstWrong() {
        int place = afterBlanks(0);
        while (nodes.isEmpty() || !open.isEmpty()) {
            int next = piece(place);
            if (next <= 0) {
                return -next;
            }
            place = next;
        }
        place = afterBlanks(place);
        return place == whole.length() ? -1 : place;
    }

    private int afterBlanks(int place) {
        Matcher blanks = BLANKS.matcher(whole).region(place, whole.length());
        return blanks.lookingAt() ? blanks.end() : place;
    }

    /** The place behind the piece there, or less than 1: no piece is right, and this, negated, is wrong. */
    private int piece(int place) {
        if (open.isEmpty()) {
            return start(place);
        }
        if (whole.startsWith("</", place)) {
            return end(place);
        }
        if (whole.startsWith("<!--", place)) {
            return viable(COMMENT, place);
        }
        if (whole.startsWith("<![CDATA[", place)) {
            int next = viable(CDATA, place);
            if (next > 0) {
                open.peek().text.append(whole, place + 9, next - 3);
            }
            return next;
        }
        if (whole.startsWith("<", place)) {
            return nodes.size() == 200 || open.peek().depth() == 40 ? -place : start(place);
        }
        return text(place);
    }

    private int text(int place) {
        Matcher signs = TEXT.matcher(whole).region(place, whole.length());
        if (signs.lookingAt()) {
            open.peek().text.append(signs.group());
            return signs.end();
        }
        Matcher entity = ONE_ENTITY.matcher(whole).region(place, whole.length());
        if (!entity.lookingAt() || decoded(entity.group()) == null) {
            return -place;
        }
        open.peek().text.append(decoded(entity.group()));
        return entity.end();
    }

    /** As piece; what no right piece of this kind begins with is wrong. */
    private int viable(Pattern kind, int place) {
        for (int end = place + 1; end <= whole.length(); end++) {
            Matcher piece = kind.matcher(whole.substring(place, end));
            if (piece.matches()) {
                return end;
            }
            if (!piece.hitEnd()) {
                return 1 - end;
            }
        }
        return -whole.length();
    }

    private int end(int place) {
        Matcher name = Pattern.compile(NAME).matcher(whole).region(place + 2, whole.length());
        if (name.lookingAt() && !name.group().equals(open.peek().name)) {
            return -(place + 2);
        }
        int next = viable(END, place);
        if (next > 0) {
            open.pop();
        }
        return next;
    }

    private int start(int place) {
        int next = viable(START, place);
        String tag = whole.substring(place, Math.abs(next));
        int wrong = next > 0 ? Integer.MAX_VALUE : -next;
        Matcher rest = OPEN_ENTITY.matcher(tag);
        if (next <= 0 && rest.find() && isInValue(tag.substring(0, rest.start()))) {
            wrong = place + rest.start();
        }
        Matcher entities = ONE_ENTITY.matcher(tag);
        while (entities.find()) {
            wrong = decoded(entities.group()) == null ? Math.min(wrong, place + entities.start()) : wrong;
        }
        Map<String, String> found = new LinkedHashMap<>();
        Matcher attributes = ATTRIBUTE.matcher(tag.replaceAll("^<" + NAME, ""));
        int shift = place + tag.length() - tag.replaceAll("^<" + NAME, "").length();
        int from = 0;
        while (attributes.find(from)) {
            wrong = found.containsKey(attributes.group(1)) ? Math.min(wrong, shift + attributes.start(1)) : wrong;
            String value = attributes.group(3);
            if (value == null) {
                break;
            }
            found.put(attributes.group(1), allDecoded(value.substring(1, value.length() - 1)));
            from = attributes.end();
        }
        if (wrong != Integer.MAX_VALUE) {
            return -wrong;
        }
        begin(place, tag, found);
        return next;
    }

    private void begin(int place, String tag, Map<String, String> attributes) {
        Matcher name = Pattern.compile(NAME).matcher(tag);
        Node node = new Node(place, name.find() ? name.group() : "", open.peek());
        node.attributes.putAll(attributes);
        if (node.parent != null) {
            node.parent.children.add(node);
        }
        nodes.add(node);
        if (!tag.endsWith("/>")) {
            open.push(node);
        }
    }

    /** Whether a tag's first signs end within a value. */
    private static boolean isInValue(String tag) {
        char quote = 0;
        for (char u : tag.toCharArray()) {
            quote = quote == 0 && (u == '"' || u == '\'') ? u : quote == u ? 0 : quote;
        }
        return quote != 0;
    }

    private static String allDecoded(String value) {
        StringBuilder told = new StringBuilder();
        Matcher entities = ONE_ENTITY.matcher(value);
        while (entities.find()) {
            String one = decoded(entities.group());
            entities.appendReplacement(told, Matcher.quoteReplacement(one == null ? "" : one));
        }
        return entities.appendTail(told).toString();
    }

    /** The sign that an entity tells, or null if it tells none. */
    private static String decoded(String entity) {
        String told = entity.substring(1, entity.length() - 1);
        if (!told.startsWith("#")) {
            return Map.of("amp", "&", "lt", "<", "gt", ">", "quot", "\"", "apos", "'").get(told);
        }
        int u = told.startsWith("#x") ? Integer.parseInt(told.substring(2), 16) : Integer.parseInt(told.substring(1));
        return u >= 32 && u <= 126 || u == 9 || u == 10 || u == 13 ? String.valueOf((char) u) : null;
    }
}
