import java.util.ArrayList;
import java.util.Collections;
import java.util.List;
import java.util.Map;
import java.util.Random;

/**
 * Texts at random (always the same ones) are read: what the program answers, and what the read heap is then, must be
 * what XmlModel and MeaningModel say.
 */
public final class ReadModelTest {
    private static final String[] SCHEMAS = {"a(x:i,s:t,l:l,r:r);b()", "a(l:l*,r:r,n:i@);b(m:l,t:t@,a:r)", "a(k:l*);b(q:r,r:r)",
        "_a(b$:l,_:i@);b$(_a:r,x:t)", "a(p:l,q:l);b(l:l*,i:i)"};
    private static final String[] NUMBERS = {"5", "0", "-7", "-0", "007", "2147483647", "2147483648", "-2147483648", "-2147483649", "",
        "-", "+5", " 5", "5 ", "12345678901", "0000000012", "-0000000012", "&#49;", "1&#x32;", "5a", "--5"};
    private static final String[] TEXTS = {"", "q", " ", "&lt;&amp;&gt;&quot;&apos;", "'", "]]>", "&#9;", "12345678901234567890",
        "123456789012345678901", "&#x41;&#065;&#000126;", "a\tb", ">/=!"};
    private static final String[] WAYS = {"", "/", "..", "../", "/a", "/a/", "//a", "1", "01", "0", "12", "/a[1]", "../..", "../../..", "./..",
        "a", "../a", "..a", "../a[2]", "../a[0]", "../a[02]", "/b", "/a/l/b", "/a/l/b[2]", "../b[2", "1a", "...", " ..", ".. ", "/a/.."};
    private static final String[] ATTRIBUTES = {" id='1'", " id='2'", " id=\"03\"", " id='12345'", " id=''", " class='a'", " class='b'",
        " n='3'", " x='1'", " reference='/a'", " id='&#49;'", "  q=\">\"", " t=''"};
    private static final String[] FILLERS = {" ", "\n", "\t", "<!-- <a> & -->", "<!---->", "<![CDATA[]]>", "<![CDATA[ ]]>", "&#32;", "&#10;", "x",
        "<![CDATA[<]]>", "&amp;", "]]>"};
    private static final String SIGNS = "<>/&;=\"' ab!-[].#x1\n";
    private static final String[] PIECES = {"<!--", "-->", "--", "<![CDATA[", "]]>", "</", "/>", "&#", "&#x", "&amp;", "<a>", "</a>", "<b/>",
        " a=''", "<!", "<?"};
    private static final int MOST_SIGNS = 440;
    private static final int MOST_DEPTH = 5;

    private final Random random;
    private final List<MeaningModel.Kind> kinds = new ArrayList<>();
    private final int[] found;

    private ReadModelTest(long seed, int[] found) {
        this.random = new Random(seed);
        this.found = found;
    }

    public static void main(String[] args) {
        int[] found = new int[4];
        for (int seed = 0; seed < 30000; seed++) {
            new ReadModelTest(seed, found).run();
        }
        for (int kind = 0; kind < found.length; kind++) {
            Check.due("many texts of each kind", found[kind] > 1000, true);
        }
        Check.end();
    }

    private void run() {
        String classes = SCHEMAS[random.nextInt(SCHEMAS.length)];
        tellKinds(classes);
        Check check = Check.of(classes);
        List<MeaningModel.Kind> allowed = new ArrayList<>(kinds);
        int forbidden = random.nextInt(12);
        if (check.scribe.forbid(forbidden, true) || forbidden < kinds.size()) {
            allowed.remove(forbidden);
        }
        String text = changed(linked(element(random.nextInt(2), null, MOST_DEPTH)));
        if (text.length() <= MOST_SIGNS) {
            compare(check, text, allowed);
        }
    }

    private void compare(Check check, String text, List<MeaningModel.Kind> allowed) {
        String what = "read() of " + text;
        XmlModel xml = new XmlModel(text);
        int answer = check.readText(text);
        if (xml.wrong >= 0) {
            found[0]++;
            Check.due(what, answer, -1 - xml.wrong);
            return;
        }
        MeaningModel meaning = new MeaningModel(allowed, xml.nodes);
        int senseless = meaning.firstWrong();
        if (senseless >= 0) {
            found[senseless == xml.nodes.get(0).begin ? 1 : 2]++;
            Check.due(what, answer, GraphScribe.MEANING - senseless);
            return;
        }
        found[3]++;
        Check.due(what, answer, meaning.heap.size());
        for (MeaningModel.Obj object : meaning.heap) {
            compareObject(what, check, object);
        }
    }

    private void compareObject(String what, Check check, MeaningModel.Obj object) {
        Check.due("kind behind " + what, check.scribe.twin().kind(1, object.number), kinds.indexOf(object.kind));
        int field = 0;
        for (Map.Entry<String, String> told : object.kind.fields.entrySet()) {
            Object value = object.values.get(told.getKey());
            String place = "value " + object.number + " " + told.getKey() + " behind " + what;
            char kind = told.getValue().charAt(0);
            Scribe twin = check.scribe.twin();
            if (kind == 'i') {
                Check.due(place, twin.value(1, object.number, field, 0), (Integer) value);
            } else if (kind == 't') {
                Check.due(place, State.text(twin, 1, object.number, field), (String) value);
            } else if (kind == 'r') {
                Check.due(place, twin.value(1, object.number, field, 0), numberOf((MeaningModel.Obj) value));
            } else {
                List<MeaningModel.Obj> list = object.list(told.getKey());
                for (int i = 0; i <= list.size(); i++) {
                    Check.due(place, twin.value(1, object.number, field, i), i == list.size() ? -2 : numberOf(list.get(i)));
                }
            }
            field++;
        }
    }

    private static int numberOf(MeaningModel.Obj object) {
        return object == null ? GraphScribe.NONE : object.number;
    }

    private void tellKinds(String classes) {
        for (String told : classes.split(";")) {
            MeaningModel.Kind kind = new MeaningModel.Kind(xmlName(told.substring(0, told.indexOf('('))));
            String fields = told.substring(told.indexOf('(') + 1, told.length() - 1);
            for (String field : fields.isEmpty() ? new String[0] : fields.split(",")) {
                kind.fields.put(xmlName(field.substring(0, field.indexOf(':'))), field.substring(field.indexOf(':') + 1));
            }
            kinds.add(kind);
        }
    }

    private static String xmlName(String name) {
        return name.replace("_", "__").replace("$", "_-");
    }

    private boolean once(int times) {
        return random.nextInt(times) == 0;
    }

    private String any(String... words) {
        return words[random.nextInt(words.length)];
    }

    /** An element of an object, in a field or not; most of these have a meaning. */
    private String element(int kindNumber, String field, int depth) {
        MeaningModel.Kind kind = kinds.get(kindNumber);
        String name = field == null ? kind.name : field;
        if (depth < MOST_DEPTH && once(4)) {
            return "<" + name + any(" reference='@'", " reference='@'", "  reference=\"@\"", " reference='@' id='3'", " reference='@' ")
                    + any("/>", "/>", "/>", "></" + name + ">", "><!-- --></" + name + ">", "> </" + name + ">", "><b/></" + name + ">");
        }
        StringBuilder content = new StringBuilder();
        List<String> attributes = new ArrayList<>();
        if (field != null && !once(30)) {
            attributes.add(" class='" + kind.name + "'");
        }
        if (once(4)) {
            attributes.add(" id='" + (1 + random.nextInt(20)) + "'");
        }
        List<String> names = new ArrayList<>(kind.fields.keySet());
        Collections.shuffle(names, random);
        for (String one : names) {
            if (kind.fields.get(one).endsWith("@")) {
                attributes.add(once(2) ? "" : " " + one + "=\"" + single(kind.fields.get(one)) + "\"");
            } else if (!once(3)) {
                content.append(filler()).append(field(one, kind.fields.get(one), depth));
            }
        }
        attributes.add(once(25) ? any(ATTRIBUTES) : "");
        content.append(once(40) ? element(random.nextInt(2), null, 0) : "").append(filler());
        Collections.shuffle(attributes, random);
        String tag = name + String.join("", attributes);
        return content.length() == 0 ? "<" + tag + "/>" : "<" + tag + ">" + content + "</" + name + ">";
    }

    private String field(String name, String kind, int depth) {
        if (kind.equals("r")) {
            return depth == 0 ? "" : element(random.nextInt(2), name, depth - 1);
        }
        String content = kind.startsWith("l") ? items(depth) : single(kind);
        if (kind.equals("l*") && !once(40)) {
            return content;
        }
        return "<" + name + (once(60) ? any(ATTRIBUTES) : "") + ">" + content + "</" + name + ">";
    }

    private String items(int depth) {
        StringBuilder items = new StringBuilder();
        for (int i = depth == 0 ? 0 : random.nextInt(once(20) ? 11 : 4); i > 0; i--) {
            items.append(element(random.nextInt(2), null, depth - 1)).append(filler());
        }
        return items.toString();
    }

    private String single(String kind) {
        String[] all = kind.startsWith("i") ? NUMBERS : TEXTS;
        return once(4) ? any(all) : kind.startsWith("i") ? Integer.toString(random.nextInt(1000) - 300) : any("q", "&lt;", "r s");
    }

    private String filler() {
        return once(5) ? FILLERS[random.nextInt(once(6) ? FILLERS.length : 9)] : "";
    }

    /** Puts a way in the place of each @: most of them lead to an element that is there. */
    private String linked(String text) {
        XmlModel xml = new XmlModel(text);
        StringBuilder linked = new StringBuilder(text);
        for (XmlModel.Node one : xml.nodes) {
            int at = linked.indexOf("@");
            if ("@".equals(one.attributes.get("reference")) && at >= 0) {
                linked.replace(at, at + 1, once(8) ? any(WAYS) : way(one, xml.nodes));
            }
        }
        return linked.toString();
    }

    private String way(XmlModel.Node from, List<XmlModel.Node> nodes) {
        XmlModel.Node to = nodes.get(random.nextInt(once(10) ? nodes.size() : nodes.indexOf(from) + 1));
        for (int i = 0; i < 5 && !to.name.equals(from.name); i++) {
            to = nodes.get(random.nextInt(nodes.indexOf(from) + 1));
        }
        if (to.attributes.containsKey("id") && once(2)) {
            return to.attributes.get("id");
        }
        if (once(2)) {
            return steps(null, to);
        }
        StringBuilder way = new StringBuilder("..");
        XmlModel.Node at = from.parent;
        while (at != null && at.parent != null && (!isAbove(at, to) || once(6))) {
            way.append("/..");
            at = at.parent;
        }
        return way + steps(at, to);
    }

    private static boolean isAbove(XmlModel.Node node, XmlModel.Node other) {
        return node == other || other.parent != null && isAbove(node, other.parent);
    }

    private static String steps(XmlModel.Node from, XmlModel.Node to) {
        if (to == from || to == null) {
            return "";
        }
        int rank = 0;
        for (XmlModel.Node one : to.parent == null ? List.of(to) : to.parent.children) {
            rank += one.name.equals(to.name) && one.begin <= to.begin ? 1 : 0;
        }
        return steps(from, to.parent) + "/" + to.name + (rank > 1 ? "[" + rank + "]" : "");
    }

    /** A text with some signs changed, left out or put in, or none, or cut off. */
    private String changed(String text) {
        String now = text;
        for (int i = once(2) ? 0 : 1 + random.nextInt(2); i > 0 && !now.isEmpty(); i--) {
            int at = random.nextInt(now.length());
            String u = once(3) ? any(PIECES) : String.valueOf(SIGNS.charAt(random.nextInt(SIGNS.length())));
            switch (random.nextInt(8)) {
                case 0:
                    now = now.substring(0, at);
                    break;
                case 1:
                case 2:
                    now = now.substring(0, at) + now.substring(at + 1);
                    break;
                case 3:
                case 4:
                    now = now.substring(0, at) + u + now.substring(at + 1);
                    break;
                default:
                    now = now.substring(0, at) + u + now.substring(at);
            }
        }
        return once(6) ? any(" ", "\n", "") + now + any(" ", "\t", "x", "<b/>", "<!-- -->") : now;
    }
}
