import java.io.StringReader;
import java.util.ArrayList;
import java.util.HashMap;
import java.util.IdentityHashMap;
import java.util.List;
import java.util.Map;
import java.util.Random;
import javax.xml.parsers.DocumentBuilder;
import javax.xml.parsers.DocumentBuilderFactory;
import javax.xml.xpath.XPath;
import javax.xml.xpath.XPathConstants;
import javax.xml.xpath.XPathFactory;
import org.w3c.dom.Element;
import org.w3c.dom.Node;
import org.w3c.dom.NodeList;
import org.xml.sax.InputSource;

/**
 * Graphs at random (always the same ones) are written in each mode. Java's own XML and XPath find in each text what is
 * in the heap; what is read again is the same graph, until something in the heap is changed.
 */
public final class RoundTripTest {
    private static final String KINDS = "itrl";
    /** Calls that are left for what is written and read. */
    private static final int SPARE_CALLS = 100;
    private static final String SIGNS = "abc XYZ019<>&\"'~]-;#/[.";

    private final Random random;
    private final Check check = new Check();
    private final int[] kinds = new int[30];
    private final int[][] numbers = new int[30][4];
    private final String[][] texts = new String[30][4];
    private final int[][] targets = new int[30][4];
    private final List<List<List<Integer>>> lists = new ArrayList<>();
    private final List<String> classNames = new ArrayList<>();
    private final List<List<String>> fields = new ArrayList<>();
    private final DocumentBuilder builder;
    private final XPath xpath;
    private int objects;
    private int mode;
    private Map<Element, Integer> begun;
    private Map<Integer, Element> elements;

    private RoundTripTest(long seed, DocumentBuilder builder, XPath xpath) {
        this.random = new Random(seed);
        this.builder = builder;
        this.xpath = xpath;
    }

    public static void main(String[] args) throws Exception {
        DocumentBuilder builder = DocumentBuilderFactory.newInstance().newDocumentBuilder();
        XPath xpath = XPathFactory.newInstance().newXPath();
        int writings = 0;
        for (int seed = 0; seed < 400; seed++) {
            writings += new RoundTripTest(seed, builder, xpath).run();
        }
        Check.due("enough graphs were written", writings > 600, true);
        Check.end();
    }

    private int run() throws Exception {
        tellClasses();
        makeObjects();
        check.scribe.limit(1 + random.nextInt(20));
        int writings = 0;
        for (mode = 0; mode <= 3; mode++) {
            int root = random.nextInt(objects);
            Scribe twin = check.scribe.twin();
            if (twin.write(root, mode) > 0) {
                writings++;
                String text = State.written(twin);
                begun = new IdentityHashMap<>();
                elements = new HashMap<>();
                object(parsed(text), root, null);
                readAgain(twin, root, text);
            }
        }
        return writings;
    }

    private Element parsed(String text) throws Exception {
        return builder.parse(new InputSource(new StringReader(text))).getDocumentElement();
    }

    private void tellClasses() {
        String[] names = {"a", "b_", "c$", "_", "Long_$9z", "e"};
        String[] fieldNames = {"p", "q_$", "r", "$s", "t", "u9"};
        StringBuilder text = new StringBuilder();
        int size = 1 + random.nextInt(names.length);
        for (int c = 0; c < size; c++) {
            List<String> told = new ArrayList<>();
            boolean implicit = false;
            int first = random.nextInt(3);
            for (int f = 0; f < random.nextInt(5); f++) {
                char kind = KINDS.charAt(random.nextInt(4));
                String rest = kind == 'i' || kind == 't' ? "@" : kind == 'l' && !implicit ? "*" : "";
                rest = random.nextBoolean() ? rest : "";
                implicit = implicit || rest.equals("*");
                told.add(fieldNames[Math.min(first + f, 5)] + ":" + kind + rest);
            }
            while (told.size() > 6 - first) {
                told.remove(told.size() - 1);
            }
            classNames.add(names[c]);
            fields.add(told);
            text.append(c == 0 ? "" : ";").append(names[c]).append("(").append(String.join(",", told)).append(")");
        }
        Check.due("classes() of " + text, check.tellClasses(text.toString()), size);
    }

    private void makeObjects() {
        objects = 1 + random.nextInt(random.nextBoolean() ? 6 : 30);
        for (int i = 0; i < objects; i++) {
            kinds[i] = random.nextInt(classNames.size());
            Check.due("make", check.scribe.make(kinds[i]), i);
            lists.add(List.of(new ArrayList<>(), new ArrayList<>(), new ArrayList<>(), new ArrayList<>()));
        }
        for (int i = 0; i < objects; i++) {
            List<String> told = fields.get(kinds[i]);
            for (int f = 0; f < told.size(); f++) {
                texts[i][f] = "";
                targets[i][f] = GraphScribe.NONE;
                if (check.scribe.left() > SPARE_CALLS) {
                    change(i, f, kindOf(told.get(f)));
                }
            }
        }
    }

    private void change(int object, int field, char kind) {
        if (kind == 'i') {
            numbers[object][field] = random.nextBoolean() ? random.nextInt() : random.nextInt(100);
            check.scribe.set(object, field, numbers[object][field]);
        } else if (kind == 't') {
            StringBuilder text = new StringBuilder();
            for (int i = random.nextInt(21); i > 0; i--) {
                text.append(SIGNS.charAt(random.nextInt(SIGNS.length())));
            }
            texts[object][field] = text.toString();
            Check.due("text", check.putText(object, field, text.toString()), true);
        } else if (kind == 'r') {
            targets[object][field] = random.nextInt(4) == 0 ? GraphScribe.NONE : random.nextInt(objects);
            check.scribe.set(object, field, targets[object][field]);
        } else {
            for (int i = random.nextInt(5); i > 0; i--) {
                int target = random.nextInt(objects);
                lists.get(object).get(field).add(target);
                check.scribe.add(object, field, target);
            }
        }
    }

    private static char kindOf(String field) {
        return field.charAt(field.indexOf(':') + 1);
    }

    private static String xmlName(String name) {
        return name.replace("_", "__").replace("$", "_-");
    }

    private static List<Element> children(Node node) {
        List<Element> found = new ArrayList<>();
        NodeList nodes = node.getChildNodes();
        for (int i = 0; i < nodes.getLength(); i++) {
            if (nodes.item(i) instanceof Element) {
                found.add((Element) nodes.item(i));
            }
        }
        return found;
    }

    /** The element of an object, or of a reference to it: of a field with a name, or in a list or as root without. */
    private void object(Element element, int object, String fieldName) throws Exception {
        String className = xmlName(classNames.get(kinds[object]));
        Check.due("name", element.getTagName(), fieldName == null ? className : fieldName);
        if (mode != 3 && elements.containsKey(object)) {
            reference(element, object);
            return;
        }
        elements.put(object, element);
        begun.put(element, begun.size() + 1);
        int attributes = 0;
        if (fieldName != null) {
            Check.due("class", element.getAttribute("class"), className);
            attributes++;
        }
        if (mode == 2) {
            Check.due("id", element.getAttribute("id"), Integer.toString(begun.size()));
            attributes++;
        }
        List<Element> rest = children(element);
        List<String> told = fields.get(kinds[object]);
        for (int f = 0; f < told.size(); f++) {
            String name = xmlName(told.get(f).substring(0, told.get(f).indexOf(':')));
            if (told.get(f).endsWith("@")) {
                Check.due("attribute", element.getAttribute(name), single(object, f, kindOf(told.get(f))));
                attributes++;
            } else {
                content(rest, object, f, name, told.get(f));
            }
        }
        Check.due("elements that are too many", rest.size(), 0);
        Check.due("attributes", element.getAttributes().getLength(), attributes);
    }

    private String single(int object, int field, char kind) {
        return kind == 'i' ? Integer.toString(numbers[object][field]) : texts[object][field];
    }

    private void content(List<Element> rest, int object, int field, String name, String told) throws Exception {
        char kind = kindOf(told);
        if (kind == 'r') {
            if (targets[object][field] != GraphScribe.NONE) {
                object(rest.remove(0), targets[object][field], name);
            }
            return;
        }
        List<Element> items = rest;
        if (!told.endsWith("*")) {
            Element element = rest.remove(0);
            Check.due("name", element.getTagName(), name);
            Check.due("attributes", element.getAttributes().getLength(), 0);
            if (kind != 'l') {
                Check.due("content", element.getTextContent(), single(object, field, kind));
            }
            items = children(element);
        }
        for (int target : lists.get(object).get(field)) {
            object(items.remove(0), target, null);
        }
        if (items != rest) {
            Check.due("objects that are too many", items.size(), 0);
        }
    }

    private void reference(Element element, int object) throws Exception {
        Check.due("attributes of a reference", element.getAttributes().getLength(), 1);
        Check.due("content of a reference", element.hasChildNodes(), false);
        String told = element.getAttribute("reference");
        Element want = elements.get(object);
        if (mode == 2) {
            Check.due("reference", told, Integer.toString(begun.get(want)));
            return;
        }
        Check.due("begin of a path", told.startsWith("/"), mode == 1);
        Node found = (Node) xpath.evaluate(told, element, XPathConstants.NODE);
        Check.due("where " + told + " leads", found == want, true);
        Check.due("[1] in a path", told.contains("[1]"), false);
    }

    private void readAgain(Scribe scribe, int root, String text) {
        scribe.take();
        int answer = scribe.read();
        if (answer < 0) {
            boolean large = mode == 3 || text.split("<[^/]").length > 200 || depthOf(text) > 40;
            Check.due("an answer of read() to " + text, large ? 0 : answer, 0);
            return;
        }
        if (mode == 3) {
            return;
        }
        Check.due("objects of " + text, answer, begun.size());
        Check.due("same graph as " + text, scribe.same(root), true);
        List<String> told = fields.get(kinds[root]);
        for (int f = 0; f < told.size(); f++) {
            if (kindOf(told.get(f)) == 'i') {
                int v = numbers[root][f];
                scribe.set(root, f, v ^ 1);
                Check.due("same graph with another number", scribe.same(root), false);
                scribe.set(root, f, v);
                Check.due("same graph as at first", scribe.same(root), true);
            }
        }
    }

    private static int depthOf(String text) {
        int depth = 0;
        int deepest = 0;
        for (int i = 0; i + 1 < text.length(); i++) {
            if (text.charAt(i) == '<') {
                depth += text.charAt(i + 1) == '/' ? -1 : 1;
                deepest = Math.max(deepest, depth);
            } else if (text.charAt(i) == '/' && text.charAt(i + 1) == '>') {
                depth--;
            }
        }
        return deepest;
    }
}
