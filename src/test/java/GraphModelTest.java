import java.util.ArrayList;
import java.util.List;
import java.util.Random;

/**
 * Graphs at random (always the same ones) are written, read, changed and compared: what is written must be what
 * WriteModel says, what is read what XmlModel and MeaningModel say; two graphs are the same if numbering their objects
 * in the order in which they are come to tells the same of both.
 */
public final class GraphModelTest {
    private static final String[] NAMES = {"a", "bb_", "c$1", "_", "Long_$9z", "e"};
    private static final String[] FIELDS = {"p", "q_$", "r", "$s", "t", "u9", "v", "w_______"};
    private static final String[] KINDS = {"i", "t", "r", "l", "i@", "t@", "l*", "r", "l"};
    private static final String SIGNS = "ab <>&\"'~]-;#/[.";
    /** Calls that are left for what is written, read and compared. */
    private static final int SPARE_CALLS = 160;
    /** Calls of a writing, a reading, a change and a comparison. */
    private static final int CALLS_AT_ONCE = 40;

    private final Random random;
    private final Check check = new Check();
    private final List<MeaningModel.Kind> kinds = new ArrayList<>();
    private final List<MeaningModel.Obj> heap = new ArrayList<>();
    private final int[] found;
    private final int most;

    private GraphModelTest(long seed, int[] found) {
        this.random = new Random(seed);
        this.found = found;
        this.most = new int[] {3, 8, 30, 30}[random.nextInt(4)];
    }

    public static void main(String[] args) {
        int[] found = new int[5];
        for (int seed = 0; seed < 2500; seed++) {
            new GraphModelTest(seed, found).run();
        }
        for (int kind = 0; kind < found.length; kind++) {
            Check.due("many graphs of each kind", found[kind] > 30, true);
        }
        Check.end();
    }

    private void run() {
        tellClasses();
        makeObjects();
        for (int mode = 0; mode <= 3 && check.scribe.left() > CALLS_AT_ONCE; mode++) {
            int root = random.nextInt(heap.size());
            int limit = 1 + random.nextInt(20);
            check.scribe.limit(limit);
            String want = WriteModel.write(heap.get(root), mode, limit);
            boolean fails = want.charAt(0) != '<';
            int answer = check.scribe.write(root, mode);
            Check.due("write in mode " + mode + " of " + want, answer, fails ? Integer.parseInt(want) : want.length());
            if (fails) {
                found[want.equals("-3") ? 0 : 1]++;
            } else {
                found[2]++;
                Check.due("written in mode " + mode, State.written(check.scribe), want);
                readAgain(want);
            }
        }
    }

    private void readAgain(String text) {
        XmlModel xml = new XmlModel(text);
        Check.due("take()", check.scribe.take(), text.length());
        if (xml.wrong >= 0) {
            Check.due("read() of " + text, check.scribe.read(), -1 - xml.wrong);
            return;
        }
        MeaningModel meaning = new MeaningModel(kinds, xml.nodes);
        int senseless = meaning.firstWrong();
        Check.due("read() of " + text, check.scribe.read(), senseless < 0 ? meaning.heap.size() : GraphScribe.MEANING - senseless);
        if (senseless < 0) {
            for (int i = 0; i < 4 && check.scribe.left() > CALLS_AT_ONCE; i++) {
                compare(meaning.heap.get(0));
                change();
            }
        }
    }

    /** Whether each of some objects has the same graph. */
    private void compare(MeaningModel.Obj first) {
        String told = told(first);
        for (int root = 0; root < heap.size() && root < 6; root++) {
            boolean same = told(heap.get(root)).equals(told);
            found[same ? 3 : 4]++;
            Check.due("same(" + root + ") with " + told, check.scribe.same(root), same);
        }
    }

    private static String told(MeaningModel.Obj root) {
        List<MeaningModel.Obj> come = new ArrayList<>(List.of(root));
        StringBuilder told = new StringBuilder();
        for (int i = 0; i < come.size(); i++) {
            MeaningModel.Obj object = come.get(i);
            told.append("\n").append(object.kind.name);
            for (String name : object.kind.fields.keySet()) {
                char kind = object.kind.fields.get(name).charAt(0);
                told.append(" ").append(name).append("=");
                if (kind == 'l') {
                    for (MeaningModel.Obj one : object.list(name)) {
                        told.append(number(come, one)).append(",");
                    }
                } else {
                    Object value = object.values.get(name);
                    told.append(kind == 'r' ? number(come, (MeaningModel.Obj) value) : value);
                }
            }
        }
        return told.toString();
    }

    private static int number(List<MeaningModel.Obj> come, MeaningModel.Obj object) {
        if (object != null && !come.contains(object)) {
            come.add(object);
        }
        return come.indexOf(object);
    }

    private void tellClasses() {
        StringBuilder text = new StringBuilder();
        int size = 1 + random.nextInt(NAMES.length);
        for (int c = 0; c < size; c++) {
            MeaningModel.Kind kind = new MeaningModel.Kind(xmlName(NAMES[c]));
            text.append(c == 0 ? "" : ";").append(NAMES[c]).append("(");
            int first = random.nextInt(5);
            for (int f = 0; f < random.nextInt(5); f++) {
                String told = KINDS[random.nextInt(KINDS.length)];
                told = told.equals("l*") && kind.fields.containsValue("l*") ? "l" : told;
                kind.fields.put(xmlName(FIELDS[first + f]), told);
                text.append(f == 0 ? "" : ",").append(FIELDS[first + f]).append(":").append(told);
            }
            text.append(")");
            kinds.add(kind);
        }
        Check.due("classes() of " + text, check.tellClasses(text.toString()), size);
    }

    private static String xmlName(String name) {
        return name.replace("_", "__").replace("$", "_-");
    }

    private void makeObjects() {
        int size = 1 + random.nextInt(most);
        for (int i = 0; i < size; i++) {
            int cls = random.nextInt(kinds.size());
            Check.due("make", check.scribe.make(cls), i);
            heap.add(new MeaningModel.Obj(i, kinds.get(cls)));
        }
        while (check.scribe.left() > SPARE_CALLS && random.nextInt(150) > 0) {
            change();
        }
    }

    /** Changes a field of an object, or none if that has none. */
    private void change() {
        MeaningModel.Obj object = heap.get(random.nextInt(heap.size()));
        List<String> names = new ArrayList<>(object.kind.fields.keySet());
        if (names.isEmpty()) {
            check.scribe.count(0);
            return;
        }
        int field = random.nextInt(names.size());
        MeaningModel.Obj target = heap.get(random.nextBoolean() ? random.nextInt(heap.size()) : (object.number + 1) % heap.size());
        switch (object.kind.fields.get(names.get(field)).charAt(0)) {
            case 'i':
                int v = random.nextInt(4) == 0 ? random.nextInt() : random.nextInt(3) - 1;
                object.values.put(names.get(field), v);
                check.scribe.set(object.number, field, v);
                break;
            case 't':
                String text = anyText();
                object.values.put(names.get(field), text);
                check.putText(object.number, field, text);
                break;
            case 'r':
                boolean none = random.nextInt(5) == 0;
                object.values.put(names.get(field), none ? null : target);
                check.scribe.set(object.number, field, none ? GraphScribe.NONE : target.number);
                break;
            default:
                addTo(object, field, names.get(field), target);
        }
    }

    private void addTo(MeaningModel.Obj object, int field, String name, MeaningModel.Obj target) {
        boolean full = object.list(name).size() == 8;
        if (!full) {
            object.list(name).add(target);
        }
        int want = full ? GraphScribe.BAD : object.list(name).size();
        Check.due("add", check.scribe.add(object.number, field, target.number), want);
    }

    private String anyText() {
        StringBuilder text = new StringBuilder();
        for (int i = random.nextInt(random.nextInt(5) == 0 ? 21 : 4); i > 0; i--) {
            text.append(SIGNS.charAt(random.nextInt(SIGNS.length())));
        }
        return text.toString();
    }
}
