import java.util.ArrayList;
import java.util.HashMap;
import java.util.HashSet;
import java.util.LinkedHashMap;
import java.util.List;
import java.util.Map;
import java.util.Set;
import java.util.regex.Matcher;
import java.util.regex.Pattern;

/**
 * What the elements of an XmlModel mean, found in another way than the program's: all elements without meaning are
 * gathered, and the first is asked for behind that.
 */
final class MeaningModel {
    /** A class: its fields' kinds (with @ or *) by their names, all in XML's form. */
    static final class Kind {
        final String name;
        final Map<String, String> fields = new LinkedHashMap<>();

        Kind(String name) {
            this.name = name;
        }

        private String implicit() {
            for (Map.Entry<String, String> field : fields.entrySet()) {
                if (field.getValue().equals("l*")) {
                    return field.getKey();
                }
            }
            return null;
        }
    }

    /** An object: what its fields hold is an Integer, a String, an Obj or null, or a list of Objs. */
    static final class Obj {
        final int number;
        final Kind kind;
        final Map<String, Object> values = new HashMap<>();

        Obj(int number, Kind kind) {
            this.number = number;
            this.kind = kind;
            for (Map.Entry<String, String> field : kind.fields.entrySet()) {
                char shape = field.getValue().charAt(0);
                values.put(field.getKey(), shape == 'i' ? (Object) 0 : shape == 't' ? "" : shape == 'l' ? new ArrayList<Obj>() : null);
            }
        }

        @SuppressWarnings("unchecked")
        List<Obj> list(String field) {
            return (List<Obj>) values.get(field);
        }
    }

    /** A reference, with its place among those of its list, or in a field. */
    private record Pending(XmlModel.Node node, Obj owner, String field, int place) {
    }

    private static final Pattern NUMBER = Pattern.compile("-?[0-9]{1,10}");
    private static final Pattern ID = Pattern.compile("[1-9][0-9]{0,3}");
    private static final Pattern TEXT = Pattern.compile("[ -~]{0,20}");
    private static final Pattern STEP = Pattern.compile("([A-Za-z_][A-Za-z0-9_.-]*)(?:\\[([2-9]|[1-9][0-9]+)\\])?");

    private final Map<String, Kind> kinds = new LinkedHashMap<>();
    private final Map<XmlModel.Node, Obj> begun = new HashMap<>();
    private final Map<String, XmlModel.Node> ids = new HashMap<>();
    private final Set<XmlModel.Node> senseless = new HashSet<>();
    private final List<Pending> references = new ArrayList<>();
    final List<Obj> heap = new ArrayList<>();
    private final List<XmlModel.Node> nodes;

    /** Classes that are not forbidden, and elements. */
    MeaningModel(List<Kind> allowed, List<XmlModel.Node> nodes) {
        for (Kind kind : allowed) {
            kinds.put(kind.name, kind);
        }
        this.nodes = nodes;
        item(nodes.get(0), null);
    }

    /** The begin of the first element without meaning, or -1. */
    int firstWrong() {
        for (XmlModel.Node node : nodes) {
            if (senseless.contains(node)) {
                return node.begin;
            }
        }
        for (Pending reference : references) {
            if (!leads(reference)) {
                return reference.node.begin;
            }
        }
        return -1;
    }

    private Obj item(XmlModel.Node node, String field) {
        String name = field == null ? node.name : node.attributes.get("class");
        Kind kind = name == null ? null : kinds.get(name);
        if (kind == null || heap.size() == 30) {
            senseless.add(node);
            return null;
        }
        Obj object = new Obj(heap.size(), kind);
        heap.add(object);
        begun.put(node, object);
        for (Map.Entry<String, String> attribute : node.attributes.entrySet()) {
            if (!isAttributeRight(node, object, attribute.getKey(), attribute.getValue(), field != null)) {
                senseless.add(node);
            }
        }
        if (!node.text.toString().matches("[ \\t\\n\\r]*")) {
            senseless.add(node);
        }
        Set<String> there = new HashSet<>();
        for (XmlModel.Node child : node.children) {
            child(child, object, there);
        }
        return object;
    }

    private boolean isAttributeRight(XmlModel.Node node, Obj object, String name, String value, boolean inField) {
        if (name.equals("class")) {
            return inField;
        }
        if (name.equals("id")) {
            return ID.matcher(value).matches() && ids.putIfAbsent(value, node) == null;
        }
        String kind = object.kind.fields.get(name);
        return kind != null && kind.endsWith("@") && fills(object, name, value);
    }

    private boolean fills(Obj object, String field, String value) {
        if (object.kind.fields.get(field).startsWith("i")) {
            if (!NUMBER.matcher(value).matches() || Long.parseLong(value) != (int) Long.parseLong(value)) {
                return false;
            }
            object.values.put(field, (int) Long.parseLong(value));
            return true;
        }
        object.values.put(field, value);
        return TEXT.matcher(value).matches();
    }

    private void child(XmlModel.Node child, Obj object, Set<String> there) {
        String kind = object.kind.fields.get(child.name);
        String implicit = object.kind.implicit();
        if (kind == null && implicit != null) {
            inList(child, object, implicit);
        } else if (kind == null || kind.endsWith("@") || kind.endsWith("*") || !there.add(child.name)) {
            senseless.add(child);
        } else if (kind.equals("r")) {
            if (child.attributes.containsKey("reference")) {
                references.add(new Pending(child, object, child.name, -1));
            } else {
                object.values.put(child.name, item(child, child.name));
            }
        } else if (!child.attributes.isEmpty()) {
            senseless.add(child);
        } else if (kind.equals("l")) {
            if (!child.text.toString().isBlank()) {
                senseless.add(child);
            }
            for (XmlModel.Node one : child.children) {
                inList(one, object, child.name);
            }
        } else if (!child.children.isEmpty() || !fills(object, child.name, child.text.toString())) {
            senseless.add(child);
        }
    }

    private void inList(XmlModel.Node node, Obj object, String field) {
        List<Obj> list = object.list(field);
        if (list.size() == 8 || !kinds.containsKey(node.name)) {
            senseless.add(node);
        } else if (node.attributes.containsKey("reference")) {
            references.add(new Pending(node, object, field, list.size()));
            list.add(null);
        } else {
            list.add(null);
            list.set(list.size() - 1, item(node, null));
        }
    }

    private boolean leads(Pending reference) {
        XmlModel.Node node = reference.node;
        if (node.attributes.size() != 1 || !node.children.isEmpty() || node.text.length() > 0) {
            return false;
        }
        XmlModel.Node end = end(node, node.attributes.get("reference"));
        Obj target = end == null ? null : begun.get(end);
        if (target == null || end.begin >= node.begin) {
            return false;
        }
        if (reference.place < 0) {
            reference.owner.values.put(reference.field, target);
            return true;
        }
        reference.owner.list(reference.field).set(reference.place, target);
        return target.kind.name.equals(node.name);
    }

    private XmlModel.Node end(XmlModel.Node from, String told) {
        if (told.matches("[0-9]+")) {
            return ids.get(told);
        }
        if (told.startsWith("/")) {
            String[] steps = told.substring(1).split("/", -1);
            return steps[0].equals(nodes.get(0).name) ? down(nodes.get(0), steps, 1) : null;
        }
        XmlModel.Node at = from;
        String[] steps = told.split("/", -1);
        int next = 0;
        while (next < steps.length && steps[next].equals("..")) {
            at = at == null ? null : at.parent;
            next++;
        }
        return at == null ? null : down(at, steps, next);
    }

    private static XmlModel.Node down(XmlModel.Node from, String[] steps, int first) {
        XmlModel.Node at = from;
        for (int i = first; i < steps.length && at != null; i++) {
            Matcher step = STEP.matcher(steps[i]);
            at = step.matches() ? child(at, step.group(1), step.group(2)) : null;
        }
        return at;
    }

    private static XmlModel.Node child(XmlModel.Node parent, String name, String rank) {
        List<XmlModel.Node> named = new ArrayList<>();
        for (XmlModel.Node child : parent.children) {
            if (child.name.equals(name)) {
                named.add(child);
            }
        }
        int k = rank == null ? 1 : rank.length() > 4 ? Integer.MAX_VALUE : Integer.parseInt(rank);
        return k <= named.size() ? named.get(k - 1) : null;
    }
}
