import java.util.ArrayList;
import java.util.Collections;
import java.util.HashMap;
import java.util.List;
import java.util.Map;

/**
 * What the document says of writing, said in another way than the program's: the elements are kept as a tree, and
 * ways and paths are found in it.
 */
final class WriteModel {
    private static final int MOST_SIGNS = 3000;

    /** An element that was begun. */
    private static final class Node {
        final String name;
        final Node parent;
        final List<Node> children = new ArrayList<>();

        Node(String name, Node parent) {
            this.name = name;
            this.parent = parent;
            if (parent != null) {
                parent.children.add(this);
            }
        }

        /** The elements from the root to this one, both too. */
        List<Node> way() {
            List<Node> way = new ArrayList<>();
            for (Node at = this; at != null; at = at.parent) {
                way.add(at);
            }
            Collections.reverse(way);
            return way;
        }

        String step() {
            int k = 0;
            for (Node one : parent == null ? List.of(this) : parent.children) {
                k += one.name.equals(name) ? 1 : 0;
                if (one == this) {
                    break;
                }
            }
            return k > 1 ? name + "[" + k + "]" : name;
        }
    }

    /** What ends a writing before its end. */
    private static final class Stop extends Exception {
        private static final long serialVersionUID = 1L;
        final int answer;

        Stop(int answer) {
            this.answer = answer;
        }
    }

    private final int mode;
    private final int limit;
    private final StringBuilder out = new StringBuilder();
    private final Map<MeaningModel.Obj, Node> begun = new HashMap<>();
    private final Map<MeaningModel.Obj, Integer> ids = new HashMap<>();

    private WriteModel(int mode, int limit) {
        this.mode = mode;
        this.limit = limit;
    }

    /** The text that is written, or the answer if there is none. */
    static String write(MeaningModel.Obj root, int mode, int limit) {
        WriteModel model = new WriteModel(mode, limit);
        try {
            model.object(root, null, null, 0);
            return model.out.toString();
        } catch (Stop stop) {
            return Integer.toString(stop.answer);
        }
    }

    private void put(String signs) throws Stop {
        out.append(signs);
        if (out.length() > MOST_SIGNS) {
            throw new Stop(GraphScribe.TOO_LONG);
        }
    }

    /** An object's element within so many others, of a reference field or not. */
    private void object(MeaningModel.Obj object, String field, Node parent, int others) throws Stop {
        Node node = new Node(field == null ? object.kind.name : field, parent);
        if (mode != 3 && begun.containsKey(object)) {
            put("<" + node.name + " reference=\"" + reference(node, object) + "\"/>");
            return;
        }
        if (others >= limit) {
            throw new Stop(GraphScribe.TOO_DEEP);
        }
        begun.put(object, node);
        ids.put(object, ids.size() + 1);
        put("<" + node.name + (field == null ? "" : " class=\"" + object.kind.name + "\"")
                + (mode == 2 ? " id=\"" + ids.get(object) + "\"" : ""));
        for (String name : object.kind.fields.keySet()) {
            if (object.kind.fields.get(name).endsWith("@")) {
                put(" " + name + "=\"" + escaped(object.values.get(name).toString()).replace("\"", "&quot;") + "\"");
            }
        }
        int behindTag = out.length();
        put(">");
        for (String name : object.kind.fields.keySet()) {
            field(object, name, object.kind.fields.get(name), node, others);
        }
        end(node.name, behindTag);
    }

    /** Ends an element whose start tag has its > there. */
    private void end(String name, int behindTag) throws Stop {
        if (out.length() == behindTag + 1) {
            out.setLength(behindTag);
            put("/>");
        } else {
            put("</" + name + ">");
        }
    }

    private void field(MeaningModel.Obj object, String name, String kind, Node parent, int others) throws Stop {
        Object value = object.values.get(name);
        if (kind.equals("r") && value != null) {
            object((MeaningModel.Obj) value, name, parent, others + 1);
        }
        if (kind.equals("l*")) {
            items(object, name, parent, others);
        }
        if (kind.equals("i") || kind.equals("t") || kind.equals("l")) {
            Node node = new Node(name, parent);
            put("<" + name);
            int behindTag = out.length();
            put(">");
            if (kind.equals("l")) {
                items(object, name, node, others);
            } else {
                put(escaped(value.toString()));
            }
            end(name, behindTag);
        }
    }

    private void items(MeaningModel.Obj object, String name, Node parent, int others) throws Stop {
        for (MeaningModel.Obj one : object.list(name)) {
            object(one, null, parent, others + 1);
        }
    }

    private static String escaped(String text) {
        return text.replace("&", "&amp;").replace("<", "&lt;").replace(">", "&gt;");
    }

    private String reference(Node from, MeaningModel.Obj object) {
        if (mode == 2) {
            return ids.get(object).toString();
        }
        List<Node> here = from.way();
        List<Node> there = begun.get(object).way();
        List<String> steps = new ArrayList<>();
        for (Node one : here) {
            if (mode == 0 && !there.contains(one)) {
                steps.add("..");
            }
        }
        for (Node one : there) {
            if (mode == 1 || !here.contains(one)) {
                steps.add(one.step());
            }
        }
        return (mode == 1 ? "/" : "") + String.join("/", steps);
    }
}
