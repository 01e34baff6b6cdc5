import java.util.Arrays;

/** Writes graphs of objects as XML and reads them again; the document's numbered promises say how. */
public final class GraphScribe {
    public static final int BAD = -1, NONE = -2, TOO_DEEP = -3, TOO_LONG = -4, MEANING = -10001;

    private static final int MOST_SIGNS = 3000;
    private static final int MOST_CLASSES = 6;
    private static final int MOST_FIELDS = 4;
    private static final int MOST_SLOTS = MOST_CLASSES * MOST_FIELDS;
    private static final int MOST_NAME = 8;
    private static final int MOST_OBJECTS = 30;
    private static final int MOST_TEXT = 20;
    private static final int MOST_LIST = 8;
    private static final int FIRST_LIMIT = 10;
    private static final int MOST_LIMIT = 20;
    private static final int MOST_ELEMENTS = 200;
    private static final int MOST_DEPTH = 40;
    /** Five signs at least stand for one attribute, so a text of MOST_SIGNS has no more. */
    private static final int MOST_ATTRIBUTES = MOST_SIGNS / 5;
    private static final int WITHOUT_CLASSES = BAD - MOST_SIGNS;

    private static final int NO_SHAPE = 0;
    private static final int NUMBER = 1;
    private static final int TEXT = 2;
    private static final int REFERENCE = 3;
    private static final int LIST = 4;

    private static final int BY_WAY = 0;
    private static final int BY_ID = 2;
    private static final int AS_TREE = 3;

    /** What stands behind the last sign of a text. */
    private static final int END = -1;
    /** The number of the first wrong thing, where none is wrong. */
    private static final int RIGHT = -1;
    /** No field, element or attribute: these are numbered from 0. */
    private static final int NOTHING = -1;

    private final Signs collected = new Signs();
    private final Tree tree = new Tree();
    private Signs written = new Signs();
    private Signs spareSigns = new Signs();
    private Schema schema = new Schema();
    private Schema spareSchema = new Schema();
    private final Heap heap = new Heap();
    private Heap readHeap = new Heap();
    private Heap spareHeap = new Heap();
    private int depthLimit = FIRST_LIMIT;

    public GraphScribe() {
    }

    public boolean unit(int u) {
        return isSign(u) && collected.put(u);
    }

    public int classes() {
        int wrong = new ClassText(collected, spareSchema).firstWrong();
        collected.clear();
        if (wrong != RIGHT) {
            return -1 - wrong;
        }
        Schema old = schema;
        schema = spareSchema;
        spareSchema = old;
        heap.clear();
        readHeap.clear();
        written.clear();
        return schema.size();
    }

    public int make(int cls) {
        return schema.isClass(cls) ? heap.born(cls, schema.references(cls)) : BAD;
    }

    public boolean set(int object, int field, int v) {
        int shape = shapeIn(heap, object, field);
        boolean fits = shape == NUMBER || shape == REFERENCE && (v == NONE || heap.has(v));
        if (fits) {
            heap.putHead(object, field, v);
        }
        return fits;
    }

    public boolean text(int object, int field) {
        if (shapeIn(heap, object, field) != TEXT || !isFieldText(collected, 0, collected.length())) {
            return false;
        }
        heap.putText(object, field, collected, 0, collected.length());
        collected.clear();
        return true;
    }

    public int add(int object, int field, int target) {
        if (shapeIn(heap, object, field) != LIST || !heap.has(target)) {
            return BAD;
        }
        return heap.append(object, field, target);
    }

    public int limit(int most) {
        if (most < 1 || most > MOST_LIMIT) {
            return BAD;
        }
        int before = depthLimit;
        depthLimit = most;
        return before;
    }

    public int write(int root, int mode) {
        if (!heap.has(root) || mode < BY_WAY || mode > AS_TREE) {
            return BAD;
        }
        spareSigns.clear();
        Writer writer = new Writer(schema, heap, spareSigns, mode, depthLimit);
        writer.element(root, NONE, 0, 0, 0);
        if (writer.failure() != 0) {
            return writer.failure();
        }
        Signs old = written;
        written = spareSigns;
        spareSigns = old;
        return written.length();
    }

    public int sign(int i) {
        return written.has(i) ? written.at(i) : BAD;
    }

    public int take() {
        collected.become(written);
        return collected.length();
    }

    public boolean forbid(int cls, boolean is) {
        boolean was = schema.isForbidden(cls);
        schema.putForbidden(cls, is);
        return was;
    }

    public int read() {
        if (schema.size() == 0) {
            return WITHOUT_CLASSES;
        }
        int wrong = new XmlText(collected, tree).firstWrong();
        int senseless = wrong == RIGHT ? new Meaning(schema, tree, spareHeap).firstWrong() : RIGHT;
        collected.clear();
        if (wrong != RIGHT) {
            return -1 - wrong;
        }
        if (senseless != RIGHT) {
            return MEANING - tree.beginOf(senseless);
        }
        Heap old = readHeap;
        readHeap = spareHeap;
        spareHeap = old;
        return readHeap.size();
    }

    public boolean same(int root) {
        return heap.has(root) && readHeap.has(0) && new Likeness(schema, heap, readHeap).holdsFrom(root, 0);
    }

    public int kind(int heap, int object) {
        return isHeap(heap) && heapAt(heap).has(object) ? heapAt(heap).classOf(object) : BAD;
    }

    public int value(int heap, int object, int field, int i) {
        if (!isHeap(heap)) {
            return 0;
        }
        int shape = shapeIn(heapAt(heap), object, field);
        if (shape == NO_SHAPE) {
            return 0;
        }
        boolean single = shape == NUMBER || shape == REFERENCE;
        return single ? heapAt(heap).head(object, field) : heapAt(heap).cell(object, field, i);
    }

    public int count(int what) {
        switch (what) {
            case 0:
                return schema.size();
            case 1:
                return heap.size();
            case 2:
                return readHeap.size();
            case 3:
                return written.length();
            case 4:
                return collected.length();
            case 5:
                return schema.forbiddenSize();
            default:
                return BAD;
        }
    }

    private int shapeIn(Heap from, int object, int field) {
        return from.has(object) ? schema.shape(from.classOf(object), field) : NO_SHAPE;
    }

    private Heap heapAt(int number) {
        return number == 0 ? heap : readHeap;
    }

    private static boolean isHeap(int number) {
        return number == 0 || number == 1;
    }

    private static boolean isSign(int u) {
        return u >= 32 && u <= 126 || u == 9 || u == 10 || u == 13;
    }

    private static boolean isBlank(int u) {
        return u == 32 || u == 9 || u == 10 || u == 13;
    }

    private static boolean isDigit(int u) {
        return u >= '0' && u <= '9';
    }

    private static boolean isLetter(int u) {
        return u >= 'a' && u <= 'z' || u >= 'A' && u <= 'Z';
    }

    private static boolean isFieldText(Signs signs, int from, int to) {
        if (to - from > MOST_TEXT) {
            return false;
        }
        for (int i = from; i < to; i++) {
            if (signs.at(i) < 32) {
                return false;
            }
        }
        return true;
    }

    /** A text of at most MOST_SIGNS signs; its row grows with it, as most texts are short. */
    private static final class Signs {
        private static final int FIRST_ROOM = 64;

        private char[] row = new char[FIRST_ROOM];
        private int length = 0;
        private boolean overflowed = false;

        int length() {
            return length;
        }

        boolean has(int i) {
            return i >= 0 && i < length;
        }

        int at(int i) {
            return i >= 0 && i < length ? row[i] : END;
        }

        /** Whether a sign found no room since the text was last cleared. */
        boolean hasOverflowed() {
            return overflowed;
        }

        void clear() {
            length = 0;
            overflowed = false;
        }

        boolean put(int u) {
            if (length >= MOST_SIGNS) {
                overflowed = true;
                return false;
            }
            if (length >= row.length) {
                char[] longer = new char[Math.min(MOST_SIGNS, 2 * row.length)];
                System.arraycopy(row, 0, longer, 0, length);
                row = longer;
            }
            row[length] = (char) u;
            length++;
            return true;
        }

        void spell(String words) {
            for (int i = 0; i < words.length(); i++) {
                put(words.charAt(i));
            }
        }

        void become(Signs other) {
            clear();
            for (int i = 0; i < other.length(); i++) {
                put(other.at(i));
            }
        }

        boolean isAt(int from, int to, String words) {
            if (to - from != words.length()) {
                return false;
            }
            for (int i = 0; i < words.length(); i++) {
                if (at(from + i) != words.charAt(i)) {
                    return false;
                }
            }
            return true;
        }
    }

    /**
     * The classes. A name has a number: that of its class, or MOST_CLASSES more than the slot of its field;
     * names are kept in XML's form, which no two names share.
     */
    private static final class Schema {
        private static final int MOST_NAMES = MOST_CLASSES + MOST_SLOTS;
        private static final int NAME_ROOM = 2 * MOST_NAME;

        private final char[] letters = new char[MOST_NAMES * NAME_ROOM];
        private final int[] lengths = new int[MOST_NAMES];
        private final int[] shapes = new int[MOST_SLOTS];
        private final boolean[] attributes = new boolean[MOST_SLOTS];
        private final int[] fieldCounts = new int[MOST_CLASSES];
        private final int[] implicits = new int[MOST_CLASSES];
        private final int[] references = new int[MOST_CLASSES];
        private final boolean[] forbidden = new boolean[MOST_CLASSES];
        private int size = 0;

        static int fieldName(int cls, int field) {
            return MOST_CLASSES + cls * MOST_FIELDS + field;
        }

        static boolean isFieldName(int name) {
            return name >= MOST_CLASSES;
        }

        int size() {
            return size;
        }

        boolean isClass(int cls) {
            return cls >= 0 && cls < size;
        }

        int fieldCount(int cls) {
            return isClass(cls) ? fieldCounts[cls] : 0;
        }

        private boolean isField(int cls, int field) {
            return cls >= 0 && cls < size && field >= 0 && field < fieldCounts[cls];
        }

        int shape(int cls, int field) {
            return isField(cls, field) ? shapes[cls * MOST_FIELDS + field] : NO_SHAPE;
        }

        boolean isAttribute(int cls, int field) {
            return isField(cls, field) && attributes[cls * MOST_FIELDS + field];
        }

        /** The implicit list of a class, or NOTHING. */
        int implicit(int cls) {
            return isClass(cls) ? implicits[cls] : NOTHING;
        }

        boolean isExplicitList(int cls, int field) {
            return shape(cls, field) == LIST && implicit(cls) != field;
        }

        /** A bit for each field that is a reference. */
        int references(int cls) {
            return isClass(cls) ? references[cls] : 0;
        }

        boolean isForbidden(int cls) {
            return isClass(cls) && forbidden[cls];
        }

        void putForbidden(int cls, boolean is) {
            if (isClass(cls)) {
                forbidden[cls] = is;
            }
        }

        int forbiddenSize() {
            int found = 0;
            for (int c = 0; c < size; c++) {
                if (forbidden[c]) {
                    found++;
                }
            }
            return found;
        }

        void clear() {
            size = 0;
        }

        /** A new last class, without fields and without a name. */
        void beginClass() {
            if (size >= MOST_CLASSES) {
                return;
            }
            lengths[size] = 0;
            fieldCounts[size] = 0;
            implicits[size] = NOTHING;
            references[size] = 0;
            forbidden[size] = false;
            size++;
        }

        /** A new last field of the last class, without a kind and without a name. */
        void beginField() {
            int cls = size - 1;
            if (!isClass(cls) || fieldCounts[cls] >= MOST_FIELDS) {
                return;
            }
            int field = fieldCounts[cls];
            lengths[fieldName(cls, field)] = 0;
            shapes[cls * MOST_FIELDS + field] = NO_SHAPE;
            attributes[cls * MOST_FIELDS + field] = false;
            fieldCounts[cls]++;
        }

        void putShape(int cls, int field, int shape) {
            if (isField(cls, field)) {
                shapes[cls * MOST_FIELDS + field] = shape;
                references[cls] |= shape == REFERENCE ? 1 << field : 0;
            }
        }

        void putAttribute(int cls, int field) {
            if (isField(cls, field)) {
                attributes[cls * MOST_FIELDS + field] = true;
            }
        }

        void putImplicit(int cls, int field) {
            if (isField(cls, field)) {
                implicits[cls] = field;
            }
        }

        void spellOn(int name, int u) {
            if (u == '$') {
                letterOn(name, '_');
                letterOn(name, '-');
            } else {
                letterOn(name, u);
                if (u == '_') {
                    letterOn(name, '_');
                }
            }
        }

        private void letterOn(int name, int u) {
            if (name >= 0 && name < MOST_NAMES && lengths[name] < NAME_ROOM) {
                letters[name * NAME_ROOM + lengths[name]] = (char) u;
                lengths[name]++;
            }
        }

        void spellTo(Signs out, int name) {
            if (name < 0 || name >= MOST_NAMES) {
                return;
            }
            for (int i = 0; i < lengths[name]; i++) {
                out.put(letters[name * NAME_ROOM + i]);
            }
        }

        boolean spells(int name, Signs signs, int from, int to) {
            if (name < 0 || name >= MOST_NAMES || lengths[name] != to - from) {
                return false;
            }
            for (int i = 0; i < lengths[name]; i++) {
                if (letters[name * NAME_ROOM + i] != signs.at(from + i)) {
                    return false;
                }
            }
            return true;
        }

        /** The class of this name if it is not forbidden, or NOTHING. */
        int readableClass(Signs signs, int from, int to) {
            for (int c = 0; c < size; c++) {
                if (spells(c, signs, from, to)) {
                    return forbidden[c] ? NOTHING : c;
                }
            }
            return NOTHING;
        }

        /** The field of this name that is an attribute (or is none), or NOTHING. */
        int fieldNamed(int cls, boolean attribute, Signs signs, int from, int to) {
            for (int f = 0; f < fieldCount(cls); f++) {
                if (isAttribute(cls, f) == attribute && spells(fieldName(cls, f), signs, from, to)) {
                    return f;
                }
            }
            return NOTHING;
        }

        boolean obeysNameRules() {
            for (int c = 0; c < size; c++) {
                if (hasTwin(c, 0, c)) {
                    return false;
                }
                for (int f = 0; f < fieldCounts[c]; f++) {
                    if (!isFieldNameFree(c, f)) {
                        return false;
                    }
                }
            }
            return true;
        }

        private boolean isFieldNameFree(int cls, int field) {
            int name = fieldName(cls, field);
            // "reference" is forbidden, too, but longer than any name.
            if (isWord(name, "class") || isWord(name, "id")) {
                return false;
            }
            if (hasTwin(name, fieldName(cls, 0), name)) {
                return false;
            }
            return implicits[cls] == NOTHING || !hasTwin(name, 0, size);
        }

        /** Whether a name from number from up to before to is spelt as this one. */
        private boolean hasTwin(int name, int from, int to) {
            for (int other = from; other < to; other++) {
                if (isTwin(name, other)) {
                    return true;
                }
            }
            return false;
        }

        private boolean isTwin(int name, int other) {
            if (name < 0 || other < 0 || name >= MOST_NAMES || other >= MOST_NAMES
                    || lengths[name] != lengths[other]) {
                return false;
            }
            for (int i = 0; i < lengths[name]; i++) {
                if (letters[name * NAME_ROOM + i] != letters[other * NAME_ROOM + i]) {
                    return false;
                }
            }
            return true;
        }

        private boolean isWord(int name, String word) {
            if (name < 0 || name >= MOST_NAMES || lengths[name] != word.length()) {
                return false;
            }
            for (int i = 0; i < lengths[name]; i++) {
                if (letters[name * NAME_ROOM + i] != word.charAt(i)) {
                    return false;
                }
            }
            return true;
        }
    }

    /** A text that tells classes, read into a schema; place is the first sign that was not used yet. */
    private static final class ClassText {
        private final Signs text;
        private final Schema schema;
        private int place = 0;

        ClassText(Signs text, Schema schema) {
            this.text = text;
            this.schema = schema;
        }

        int firstWrong() {
            schema.clear();
            boolean more = true;
            for (int c = 0; c < MOST_CLASSES && more; c++) {
                if (!isClassRight(c)) {
                    return place;
                }
                more = c + 1 < MOST_CLASSES && skips(';');
            }
            if (place < text.length()) {
                return place;
            }
            return schema.obeysNameRules() ? RIGHT : place;
        }

        private boolean isClassRight(int cls) {
            schema.beginClass();
            if (!isNameRight(cls) || !skips('(')) {
                return false;
            }
            if (skips(')')) {
                return true;
            }
            boolean more = true;
            for (int f = 0; f < MOST_FIELDS && more; f++) {
                if (!isFieldRight(cls, f)) {
                    return false;
                }
                more = f + 1 < MOST_FIELDS && skips(',');
            }
            return skips(')');
        }

        private boolean isFieldRight(int cls, int field) {
            schema.beginField();
            if (!isNameRight(Schema.fieldName(cls, field)) || !skips(':')) {
                return false;
            }
            int shape = shapeOf(text.at(place));
            if (shape == NO_SHAPE) {
                return false;
            }
            place++;
            schema.putShape(cls, field, shape);
            boolean single = shape == NUMBER || shape == TEXT;
            if (single && skips('@')) {
                schema.putAttribute(cls, field);
            } else if (shape == LIST && schema.implicit(cls) == NOTHING && skips('*')) {
                schema.putImplicit(cls, field);
            }
            return true;
        }

        private boolean isNameRight(int name) {
            if (isDigit(text.at(place)) || !isNameSign(text.at(place))) {
                return false;
            }
            for (int i = 0; i < MOST_NAME && isNameSign(text.at(place)); i++) {
                schema.spellOn(name, text.at(place));
                place++;
            }
            return true;
        }

        private boolean skips(int u) {
            if (text.at(place) != u) {
                return false;
            }
            place++;
            return true;
        }

        private static boolean isNameSign(int u) {
            return isLetter(u) || isDigit(u) || u == '_' || u == '$';
        }

        private static int shapeOf(int u) {
            switch (u) {
                case 'i':
                    return NUMBER;
                case 't':
                    return TEXT;
                case 'r':
                    return REFERENCE;
                case 'l':
                    return LIST;
                default:
                    return NO_SHAPE;
            }
        }
    }

    /**
     * Objects. The head of a field is its number, the target of its reference or the length of its text or list;
     * the signs of a text and the objects of a list are its cells.
     */
    private static final class Heap {
        private final int[] classes = new int[MOST_OBJECTS];
        private final int[] heads = new int[MOST_OBJECTS * MOST_FIELDS];
        private final int[] cells = new int[MOST_OBJECTS * MOST_FIELDS * MOST_TEXT];
        private int size = 0;

        int size() {
            return size;
        }

        boolean has(int object) {
            return object >= 0 && object < size;
        }

        void clear() {
            size = 0;
        }

        /** A new object of a class, whose references are told by bits, or BAD. */
        int born(int cls, int references) {
            if (size >= MOST_OBJECTS) {
                return BAD;
            }
            classes[size] = cls;
            for (int f = 0; f < MOST_FIELDS; f++) {
                heads[size * MOST_FIELDS + f] = (references >> f & 1) != 0 ? NONE : 0;
            }
            size++;
            return size - 1;
        }

        int classOf(int object) {
            return has(object) ? classes[object] : BAD;
        }

        private boolean hasField(int object, int field) {
            return object >= 0 && object < size && field >= 0 && field < MOST_FIELDS;
        }

        int head(int object, int field) {
            return hasField(object, field) ? heads[object * MOST_FIELDS + field] : 0;
        }

        void putHead(int object, int field, int v) {
            if (hasField(object, field)) {
                heads[object * MOST_FIELDS + field] = v;
            }
        }

        private boolean hasCell(int object, int field, int i) {
            return object >= 0 && object < size && field >= 0 && field < MOST_FIELDS
                    && i >= 0 && i < MOST_TEXT && i < heads[object * MOST_FIELDS + field];
        }

        int cell(int object, int field, int i) {
            return hasCell(object, field, i) ? cells[(object * MOST_FIELDS + field) * MOST_TEXT + i] : NONE;
        }

        void putCell(int object, int field, int i, int v) {
            if (hasCell(object, field, i)) {
                cells[(object * MOST_FIELDS + field) * MOST_TEXT + i] = v;
            }
        }

        /** Puts an object behind the others of a list: how many it has then, or BAD. */
        int append(int object, int field, int target) {
            int length = head(object, field);
            if (length >= MOST_LIST) {
                return BAD;
            }
            putHead(object, field, length + 1);
            putCell(object, field, length, target);
            return length + 1;
        }

        void putText(int object, int field, Signs signs, int from, int to) {
            if (!hasField(object, field)) {
                return;
            }
            int slot = object * MOST_FIELDS + field;
            heads[slot] = Math.min(to - from, MOST_TEXT);
            for (int i = 0; i < MOST_TEXT && i < heads[slot]; i++) {
                cells[slot * MOST_TEXT + i] = signs.at(from + i);
            }
        }
    }

    /** One writing of a root. Where an object was begun tells its owner, the owner's field and the place in a list. */
    private static final class Writer {
        /** Each object on a way, its list, and the element of the reference itself. */
        private static final int MOST_WAY = 2 * MOST_OBJECTS + 2;
        private static final int ITSELF = -1;

        private final Schema schema;
        private final Heap heap;
        private final Signs out;
        private final int mode;
        private final int most;
        private final int[] ids = new int[MOST_OBJECTS];
        private final int[] owners = new int[MOST_OBJECTS];
        private final int[] fields = new int[MOST_OBJECTS];
        private final int[] places = new int[MOST_OBJECTS];
        private final int[] here = new int[MOST_WAY];
        private final int[] there = new int[MOST_WAY];
        private int begun = 0;
        private boolean tooDeep = false;

        Writer(Schema schema, Heap heap, Signs out, int mode, int most) {
            this.schema = schema;
            this.heap = heap;
            this.out = out;
            this.mode = mode;
            this.most = most;
        }

        /** TOO_DEEP, TOO_LONG or 0; nothing is found to be too deep once the text is too long. */
        int failure() {
            if (tooDeep) {
                return TOO_DEEP;
            }
            return out.hasOverflowed() ? TOO_LONG : 0;
        }

        /** The element of an object in its owner's field (the root has the owner NONE), within depth others. */
        private void element(int object, int owner, int field, int place, int depth) {
            if (tooDeep || out.hasOverflowed() || !heap.has(object)) {
                return;
            }
            if (mode != AS_TREE && ids[object] > 0) {
                reference(object, owner, field);
                return;
            }
            if (depth >= most) {
                tooDeep = true;
                return;
            }
            begun++;
            ids[object] = begun;
            owners[object] = owner;
            fields[object] = field;
            places[object] = place;
            int name = nameOf(object, owner, field);
            startTag(object, name);
            if (!hasContent(object)) {
                out.spell("/>");
                return;
            }
            out.put('>');
            for (int f = 0; f < MOST_FIELDS; f++) {
                content(object, f, depth);
            }
            endTag(name);
        }

        private int nameOf(int object, int owner, int field) {
            int cls = heap.classOf(owner);
            return schema.shape(cls, field) == REFERENCE ? Schema.fieldName(cls, field) : heap.classOf(object);
        }

        private void startTag(int object, int name) {
            int cls = heap.classOf(object);
            out.put('<');
            schema.spellTo(out, name);
            if (Schema.isFieldName(name)) {
                out.spell(" class=\"");
                schema.spellTo(out, cls);
                out.put('"');
            }
            if (mode == BY_ID) {
                out.spell(" id=\"");
                number(ids[object]);
                out.put('"');
            }
            for (int f = 0; f < schema.fieldCount(cls); f++) {
                if (schema.isAttribute(cls, f)) {
                    out.put(' ');
                    schema.spellTo(out, Schema.fieldName(cls, f));
                    out.spell("=\"");
                    single(object, f, true);
                    out.put('"');
                }
            }
        }

        private void endTag(int name) {
            out.spell("</");
            schema.spellTo(out, name);
            out.put('>');
        }

        private boolean hasContent(int object) {
            int cls = heap.classOf(object);
            for (int f = 0; f < schema.fieldCount(cls); f++) {
                if (!schema.isAttribute(cls, f) && hasElement(object, cls, f)) {
                    return true;
                }
            }
            return false;
        }

        private boolean hasElement(int object, int cls, int field) {
            if (schema.shape(cls, field) == REFERENCE) {
                return heap.head(object, field) != NONE;
            }
            return schema.implicit(cls) != field || heap.head(object, field) > 0;
        }

        private void content(int object, int field, int depth) {
            int cls = heap.classOf(object);
            int shape = schema.shape(cls, field);
            if (shape == NO_SHAPE || schema.isAttribute(cls, field)) {
                return;
            }
            if (shape == REFERENCE) {
                element(heap.head(object, field), object, field, 0, depth + 1);
                return;
            }
            if (schema.implicit(cls) == field) {
                items(object, field, depth);
                return;
            }
            int name = Schema.fieldName(cls, field);
            out.put('<');
            schema.spellTo(out, name);
            if (shape != NUMBER && heap.head(object, field) == 0) {
                out.spell("/>");
                return;
            }
            out.put('>');
            if (shape == LIST) {
                items(object, field, depth);
            } else {
                single(object, field, false);
            }
            endTag(name);
        }

        private void items(int object, int field, int depth) {
            for (int i = 0; i < MOST_LIST && i < heap.head(object, field); i++) {
                element(heap.cell(object, field, i), object, field, i, depth + 1);
            }
        }

        /** The number or the text of a field, within a value or not. */
        private void single(int object, int field, boolean inValue) {
            if (schema.shape(heap.classOf(object), field) == NUMBER) {
                number(heap.head(object, field));
                return;
            }
            for (int i = 0; i < MOST_TEXT && i < heap.head(object, field); i++) {
                escaped(heap.cell(object, field, i), inValue);
            }
        }

        private void escaped(int u, boolean inValue) {
            if (u == '&') {
                out.spell("&amp;");
            } else if (u == '<') {
                out.spell("&lt;");
            } else if (u == '>') {
                out.spell("&gt;");
            } else if (u == '"' && inValue) {
                out.spell("&quot;");
            } else {
                out.put(u);
            }
        }

        private void number(int v) {
            long rest = Math.abs((long) v);
            long power = 1;
            for (int i = 0; i < 9 && power * 10 <= rest; i++) {
                power *= 10;
            }
            if (v < 0) {
                out.put('-');
            }
            for (int i = 0; i < 10 && power > 0; i++) {
                out.put('0' + (int) (rest / power % 10));
                power /= 10;
            }
        }

        private void reference(int object, int owner, int field) {
            int name = nameOf(object, owner, field);
            out.put('<');
            schema.spellTo(out, name);
            out.spell(" reference=\"");
            if (mode == BY_ID) {
                number(ids[object]);
            } else if (mode == BY_WAY) {
                way(object, owner, field);
            } else {
                path(object);
            }
            out.spell("\"/>");
        }

        private void path(int object) {
            int length = ancestry(there, 0, object);
            for (int i = length - 1; i >= 0; i--) {
                out.put('/');
                step(there[i]);
            }
        }

        private void way(int object, int owner, int field) {
            int hereLength = ancestry(here, ancestryOfItself(owner, field), owner);
            int thereLength = ancestry(there, 0, object);
            int shared = 0;
            while (shared < hereLength && shared < thereLength
                    && here[hereLength - 1 - shared] == there[thereLength - 1 - shared]) {
                shared++;
            }
            for (int i = 0; i < hereLength - shared; i++) {
                out.spell(i == 0 ? ".." : "/..");
            }
            for (int i = thereLength - shared - 1; i >= 0; i--) {
                out.put('/');
                step(there[i]);
            }
        }

        /** Begins the row of here with a reference's element and that of the list around it: how many these are. */
        private int ancestryOfItself(int owner, int field) {
            here[0] = ITSELF;
            if (!schema.isExplicitList(heap.classOf(owner), field)) {
                return 1;
            }
            here[1] = listElement(owner, field);
            return 2;
        }

        /** Puts the elements from an object's up to the root into a row, behind the first ones: its new length. */
        private int ancestry(int[] row, int first, int object) {
            int length = first;
            int next = object;
            for (int i = 0; i < MOST_OBJECTS && heap.has(next) && length + 2 <= row.length; i++) {
                row[length] = next;
                length++;
                int owner = owners[next];
                if (schema.isExplicitList(heap.classOf(owner), fields[next])) {
                    row[length] = listElement(owner, fields[next]);
                    length++;
                }
                next = owner;
            }
            return length;
        }

        /** The elements of objects have their numbers, those of lists the numbers behind these. */
        private static int listElement(int owner, int field) {
            return MOST_OBJECTS + owner * MOST_FIELDS + field;
        }

        private void step(int element) {
            if (!heap.has(element)) {
                int slot = Math.max(0, element - MOST_OBJECTS);
                schema.spellTo(out, Schema.fieldName(heap.classOf(slot / MOST_FIELDS), slot % MOST_FIELDS));
                return;
            }
            schema.spellTo(out, nameOf(element, owners[element], fields[element]));
            int rank = rankAmongItems(element);
            if (rank > 1) {
                out.put('[');
                number(rank);
                out.put(']');
            }
        }

        /** The how-manieth of its class an object's element is in its list; 0 if it is in none. */
        private int rankAmongItems(int object) {
            int owner = owners[object];
            if (schema.shape(heap.classOf(owner), fields[object]) != LIST) {
                return 0;
            }
            int rank = 0;
            for (int i = 0; i <= places[object]; i++) {
                if (heap.classOf(heap.cell(owner, fields[object], i)) == heap.classOf(object)) {
                    rank++;
                }
            }
            return rank;
        }
    }

    /**
     * The elements of a text that was read, in their order, with their attributes. Names stay in the text; values
     * and the texts of contents are kept decoded, one behind the other.
     */
    private static final class Tree {
        private final Signs values = new Signs();
        private Signs text = values;
        private final int[] begins = new int[MOST_ELEMENTS];
        private final int[] nameFroms = new int[MOST_ELEMENTS];
        private final int[] nameTos = new int[MOST_ELEMENTS];
        private final int[] parents = new int[MOST_ELEMENTS];
        private final int[] kidCounts = new int[MOST_ELEMENTS];
        private final int[] firstAttributes = new int[MOST_ELEMENTS];
        private final int[] attributeCounts = new int[MOST_ELEMENTS];
        private final int[] textFroms = new int[MOST_ELEMENTS];
        private final int[] textTos = new int[MOST_ELEMENTS];
        private final boolean[] solids = new boolean[MOST_ELEMENTS];
        private final int[] keyFroms = new int[MOST_ATTRIBUTES];
        private final int[] keyTos = new int[MOST_ATTRIBUTES];
        private final int[] valueFroms = new int[MOST_ATTRIBUTES];
        private final int[] valueTos = new int[MOST_ATTRIBUTES];
        private int size = 0;
        private int attributeSize = 0;

        /** Begins a tree without elements, whose names will be found in this text. */
        void restart(Signs newText) {
            text = newText;
            values.clear();
            size = 0;
            attributeSize = 0;
        }

        Signs names() {
            return text;
        }

        Signs values() {
            return values;
        }

        int size() {
            return size;
        }

        private boolean has(int element) {
            return element >= 0 && element < size;
        }

        private boolean hasAttribute(int attribute) {
            return attribute >= 0 && attribute < attributeSize;
        }

        /** A new last element, whose name stands behind its &lt;: which one; NOTHING if there is no room. */
        int begin(int place, int nameTo, int parent) {
            if (size >= MOST_ELEMENTS) {
                return NOTHING;
            }
            begins[size] = place;
            nameFroms[size] = place + 1;
            nameTos[size] = nameTo;
            parents[size] = parent;
            kidCounts[size] = 0;
            firstAttributes[size] = attributeSize;
            attributeCounts[size] = 0;
            solids[size] = false;
            if (has(parent)) {
                kidCounts[parent]++;
            }
            size++;
            return size - 1;
        }

        /** A new last attribute of the last element, whose value are the last values from there on. */
        void addAttribute(int keyFrom, int keyTo, int valueFrom) {
            if (size == 0 || attributeSize >= MOST_ATTRIBUTES) {
                return;
            }
            keyFroms[attributeSize] = keyFrom;
            keyTos[attributeSize] = keyTo;
            valueFroms[attributeSize] = valueFrom;
            valueTos[attributeSize] = values.length();
            attributeSize++;
            attributeCounts[size - 1]++;
        }

        /** An element's own text stands behind the values of its attributes. */
        void beginText(int element) {
            if (has(element)) {
                textFroms[element] = values.length();
                textTos[element] = values.length();
            }
        }

        /** A sign of an element's own text; only a childless element's text is in one piece, and asked for. */
        void addText(int element, int u) {
            if (has(element)) {
                values.put(u);
                textTos[element] = values.length();
                solids[element] = solids[element] || !isBlank(u);
            }
        }

        int beginOf(int element) {
            return has(element) ? begins[element] : 0;
        }

        int nameFrom(int element) {
            return has(element) ? nameFroms[element] : 0;
        }

        int nameTo(int element) {
            return has(element) ? nameTos[element] : 0;
        }

        int parent(int element) {
            return has(element) ? parents[element] : NOTHING;
        }

        int kidCount(int element) {
            return has(element) ? kidCounts[element] : 0;
        }

        int firstAttribute(int element) {
            return has(element) ? firstAttributes[element] : 0;
        }

        int attributeCount(int element) {
            return has(element) ? attributeCounts[element] : 0;
        }

        int textFrom(int element) {
            return has(element) ? textFroms[element] : 0;
        }

        int textTo(int element) {
            return has(element) ? textTos[element] : 0;
        }

        /** Whether an element's own text has more than blanks. */
        boolean isSolid(int element) {
            return has(element) && solids[element];
        }

        int keyFrom(int attribute) {
            return hasAttribute(attribute) ? keyFroms[attribute] : 0;
        }

        int keyTo(int attribute) {
            return hasAttribute(attribute) ? keyTos[attribute] : 0;
        }

        int valueFrom(int attribute) {
            return hasAttribute(attribute) ? valueFroms[attribute] : 0;
        }

        int valueTo(int attribute) {
            return hasAttribute(attribute) ? valueTos[attribute] : 0;
        }

        boolean isNamed(int element, int from, int to) {
            return has(element) && isSpelt(nameFroms[element], nameTos[element], text, from, to);
        }

        boolean hasKey(int element, int from, int to) {
            int first = firstAttribute(element);
            for (int a = first; a < first + attributeCount(element); a++) {
                if (isSpelt(keyFroms[a], keyTos[a], text, from, to)) {
                    return true;
                }
            }
            return false;
        }

        /** The attribute of an element with this name, or NOTHING. */
        int attributeNamed(int element, String word) {
            int first = firstAttribute(element);
            for (int a = first; a < first + attributeCount(element); a++) {
                if (text.isAt(keyFroms[a], keyTos[a], word)) {
                    return a;
                }
            }
            return NOTHING;
        }

        /** The rank-th of a parent's elements that is named as these values, or NOTHING, which is the root's parent. */
        int child(int parent, int from, int to, int rank) {
            int found = 0;
            for (int e = parent + 1; e < size; e++) {
                if (parents[e] == parent && isSpelt(nameFroms[e], nameTos[e], values, from, to)) {
                    found++;
                    if (found == rank) {
                        return e;
                    }
                }
            }
            return NOTHING;
        }

        private boolean isSpelt(int from, int to, Signs signs, int otherFrom, int otherTo) {
            if (to - from != otherTo - otherFrom) {
                return false;
            }
            for (int i = 0; i < to - from; i++) {
                if (text.at(from + i) != signs.at(otherFrom + i)) {
                    return false;
                }
            }
            return true;
        }
    }

    /** A text read as XML into a tree; place is the first sign that was not used yet. */
    private static final class XmlText {
        private final Signs text;
        private final Tree tree;
        private final Signs values;
        private int place = 0;
        private int open = NOTHING;
        private int depth = 0;
        private int wrong = RIGHT;

        XmlText(Signs text, Tree tree) {
            this.text = text;
            this.tree = tree;
            this.values = tree.values();
        }

        int firstWrong() {
            tree.restart(text);
            skipBlanks();
            if (text.at(place) != '<') {
                return place;
            }
            startTag();
            for (int piece = 0; piece < MOST_SIGNS && wrong == RIGHT && open != NOTHING; piece++) {
                if (text.at(place) == END) {
                    wrong = place;
                } else if (text.at(place) != '<') {
                    textSign();
                } else if (text.at(place + 1) == '/') {
                    endTag();
                } else if (comes("<!--")) {
                    comment();
                } else if (comes("<![CDATA[")) {
                    cdata();
                } else if (tree.size() >= MOST_ELEMENTS || depth >= MOST_DEPTH) {
                    wrong = place;
                } else {
                    startTag();
                }
            }
            if (wrong != RIGHT) {
                return wrong;
            }
            skipBlanks();
            return place < text.length() ? place : RIGHT;
        }

        private void startTag() {
            int begin = place;
            place++;
            skipName();
            if (place == begin + 1) {
                wrong = place;
                return;
            }
            int element = tree.begin(begin, place, open);
            for (int a = 0; a <= MOST_ATTRIBUTES && skipsToName(); a++) {
                attribute(element);
                if (wrong != RIGHT) {
                    return;
                }
            }
            boolean empty = text.at(place) == '/';
            if (empty) {
                place++;
            }
            if (text.at(place) != '>') {
                wrong = place;
                return;
            }
            place++;
            tree.beginText(element);
            if (!empty) {
                open = element;
                depth++;
            }
        }

        /** Skips blanks; whether there were some, and a name stands behind them. */
        private boolean skipsToName() {
            int from = place;
            skipBlanks();
            return place > from && isNameBegin(text.at(place));
        }

        private void attribute(int element) {
            int from = place;
            skipName();
            int to = place;
            if (tree.hasKey(element, from, to)) {
                wrong = from;
                return;
            }
            if (!skipsToValue()) {
                wrong = place;
                return;
            }
            int quote = text.at(place - 1);
            int valueFrom = values.length();
            for (int i = 0; i < MOST_SIGNS && !endsValue(quote); i++) {
                int u = decoded();
                if (u == END) {
                    return;
                }
                values.put(u);
            }
            if (text.at(place) != quote) {
                wrong = place;
                return;
            }
            place++;
            tree.addAttribute(from, to, valueFrom);
        }

        /** Skips = and what begins a value; place is the sign that is wrong, if one is. */
        private boolean skipsToValue() {
            if (text.at(place) != '=') {
                return false;
            }
            place++;
            if (text.at(place) != '"' && text.at(place) != '\'') {
                return false;
            }
            place++;
            return true;
        }

        private boolean endsValue(int quote) {
            int u = text.at(place);
            return u == quote || u == '<' || u == END;
        }

        private void endTag() {
            place += 2;
            int from = place;
            skipName();
            if (place == from) {
                wrong = place;
                return;
            }
            if (!tree.isNamed(open, from, place)) {
                wrong = from;
                return;
            }
            skipBlanks();
            if (text.at(place) != '>') {
                wrong = place;
                return;
            }
            place++;
            open = tree.parent(open);
            depth--;
        }

        private void comment() {
            place += 4;
            while (place < text.length() && !comes("--")) {
                place++;
            }
            if (place < text.length()) {
                place += 2;
            }
            if (text.at(place) == '>') {
                place++;
            } else {
                wrong = place;
            }
        }

        private void cdata() {
            place += 9;
            while (place < text.length() && !comes("]]>")) {
                tree.addText(open, text.at(place));
                place++;
            }
            if (place < text.length()) {
                place += 3;
            } else {
                wrong = place;
            }
        }

        private void textSign() {
            int u = decoded();
            if (u != END) {
                tree.addText(open, u);
            }
        }

        /** The next sign of a value or a text; END if it is told wrongly. */
        private int decoded() {
            int u = text.at(place);
            if (u != '&') {
                place++;
                return u;
            }
            int told = text.at(place + 1) == '#' ? numbered() : named();
            if (told == END) {
                wrong = place;
            }
            return told;
        }

        private int named() {
            if (comes("&amp;")) {
                place += 5;
                return '&';
            }
            if (comes("&lt;")) {
                place += 4;
                return '<';
            }
            if (comes("&gt;")) {
                place += 4;
                return '>';
            }
            if (comes("&quot;")) {
                place += 6;
                return '"';
            }
            if (comes("&apos;")) {
                place += 6;
                return '\'';
            }
            return END;
        }

        private int numbered() {
            boolean hexadecimal = text.at(place + 2) == 'x';
            int base = hexadecimal ? 16 : 10;
            int from = place + (hexadecimal ? 3 : 2);
            int to = from;
            int told = 0;
            for (int i = 0; i < 6 && digit(text.at(to), base) >= 0; i++) {
                told = told * base + digit(text.at(to), base);
                to++;
            }
            if (to == from || text.at(to) != ';' || !isSign(told)) {
                return END;
            }
            place = to + 1;
            return told;
        }

        private static int digit(int u, int base) {
            if (u >= '0' && u <= '9') {
                return u - '0';
            }
            if (base == 16 && u >= 'a' && u <= 'f') {
                return u - 'a' + 10;
            }
            if (base == 16 && u >= 'A' && u <= 'F') {
                return u - 'A' + 10;
            }
            return -1;
        }

        private boolean comes(String words) {
            for (int i = 0; i < words.length(); i++) {
                if (text.at(place + i) != words.charAt(i)) {
                    return false;
                }
            }
            return true;
        }

        private void skipBlanks() {
            while (place < text.length() && isBlank(text.at(place))) {
                place++;
            }
        }

        /** Skips as much of a name as there is. */
        private void skipName() {
            if (!isNameBegin(text.at(place))) {
                return;
            }
            while (place < text.length() && isNameSign(text.at(place))) {
                place++;
            }
        }

        private static boolean isNameBegin(int u) {
            return isLetter(u) || u == '_';
        }

        private static boolean isNameSign(int u) {
            return isLetter(u) || isDigit(u) || u == '_' || u == '-' || u == '.';
        }
    }

    /** What the elements of a tree mean: each gets a role, and those that are objects go into a heap. */
    private static final class Meaning {
        private static final int OBJECT = 1;
        private static final int LISTING = 2;
        private static final int SINGLE = 3;
        private static final int REFERRING = 4;
        /** An element within one of a reference, which has no meaning itself then. */
        private static final int IGNORED = 5;

        private final Schema schema;
        private final Tree tree;
        private final Signs names;
        private final Signs values;
        private final Heap heap;
        private final Way way;
        private final int[] roles;
        /** The object that an element is; of another element the one that has the field. */
        private final int[] objects;
        /** The field that an element is for; of an object in a list and of the root NOTHING. */
        private final int[] fields;
        /** The place in its list of a reference; in a reference field NOTHING. */
        private final int[] places;
        private final int[] ids;
        /** Of each object a bit for each field that there was an element for. */
        private final int[] filled = new int[MOST_OBJECTS];

        Meaning(Schema schema, Tree tree, Heap heap) {
            this.schema = schema;
            this.tree = tree;
            this.names = tree.names();
            this.values = tree.values();
            this.heap = heap;
            this.way = new Way(tree);
            this.roles = new int[tree.size()];
            this.objects = new int[tree.size()];
            this.fields = new int[tree.size()];
            this.places = new int[tree.size()];
            this.ids = new int[tree.size()];
        }

        /** The first element without meaning, or RIGHT; references come last, as they may lead to any object. */
        int firstWrong() {
            heap.clear();
            for (int e = 0; e < roles.length; e++) {
                if (!isPlaced(e) || !isSound(e)) {
                    return e;
                }
            }
            for (int e = 0; e < roles.length; e++) {
                if (roles[e] == REFERRING && !leads(e)) {
                    return e;
                }
            }
            return RIGHT;
        }

        private boolean isPlaced(int e) {
            int parent = tree.parent(e);
            if (parent < 0 || parent >= e) {
                return begins(e, schema.readableClass(names, tree.nameFrom(e), tree.nameTo(e)));
            }
            if (roles[parent] == OBJECT) {
                return isPlacedInObject(e, objects[parent]);
            }
            if (roles[parent] == LISTING) {
                return isPlacedInList(e, objects[parent], fields[parent]);
            }
            roles[e] = IGNORED;
            return true;
        }

        private boolean begins(int e, int cls) {
            int object = cls == NOTHING ? BAD : heap.born(cls, schema.references(cls));
            if (object == BAD) {
                return false;
            }
            takesRole(e, OBJECT, object, NOTHING);
            return true;
        }

        private void takesRole(int e, int role, int object, int field) {
            roles[e] = role;
            objects[e] = object;
            fields[e] = field;
            places[e] = NOTHING;
        }

        private boolean isPlacedInObject(int e, int object) {
            int cls = heap.classOf(object);
            int field = schema.fieldNamed(cls, false, names, tree.nameFrom(e), tree.nameTo(e));
            int implicit = schema.implicit(cls);
            if (field == NOTHING && implicit != NOTHING) {
                return isPlacedInList(e, object, implicit);
            }
            if (field == NOTHING || field == implicit || (filled[object] >> field & 1) != 0) {
                return false;
            }
            filled[object] |= 1 << field;
            if (schema.shape(cls, field) == REFERENCE) {
                return isPlacedAsTarget(e, object, field);
            }
            takesRole(e, schema.shape(cls, field) == LIST ? LISTING : SINGLE, object, field);
            return true;
        }

        private boolean isPlacedAsTarget(int e, int object, int field) {
            if (tree.attributeNamed(e, "reference") != NOTHING) {
                takesRole(e, REFERRING, object, field);
                return true;
            }
            int told = tree.attributeNamed(e, "class");
            if (told == NOTHING) {
                return false;
            }
            int cls = schema.readableClass(values, tree.valueFrom(told), tree.valueTo(told));
            if (!begins(e, cls)) {
                return false;
            }
            fields[e] = field;
            heap.putHead(object, field, objects[e]);
            return true;
        }

        private boolean isPlacedInList(int e, int object, int field) {
            int cls = schema.readableClass(names, tree.nameFrom(e), tree.nameTo(e));
            int length = cls == NOTHING ? BAD : heap.append(object, field, NONE);
            if (length == BAD) {
                return false;
            }
            if (tree.attributeNamed(e, "reference") != NOTHING) {
                takesRole(e, REFERRING, object, field);
                places[e] = length - 1;
                return true;
            }
            if (!begins(e, cls)) {
                return false;
            }
            heap.putCell(object, field, length - 1, objects[e]);
            return true;
        }

        private boolean isSound(int e) {
            switch (roles[e]) {
                case OBJECT:
                    return !tree.isSolid(e) && areAttributesSound(e);
                case LISTING:
                    return !tree.isSolid(e) && tree.attributeCount(e) == 0;
                case SINGLE:
                    return tree.attributeCount(e) == 0 && tree.kidCount(e) == 0
                            && fills(objects[e], fields[e], tree.textFrom(e), tree.textTo(e));
                default:
                    return true;
            }
        }

        private boolean areAttributesSound(int e) {
            int first = tree.firstAttribute(e);
            boolean sound = true;
            for (int a = first; a < first + tree.attributeCount(e) && sound; a++) {
                int from = tree.keyFrom(a);
                int to = tree.keyTo(a);
                if (names.isAt(from, to, "class")) {
                    sound = fields[e] != NOTHING;
                } else if (names.isAt(from, to, "id")) {
                    sound = isIdSound(e, a);
                } else {
                    int field = schema.fieldNamed(heap.classOf(objects[e]), true, names, from, to);
                    sound = field != NOTHING && fills(objects[e], field, tree.valueFrom(a), tree.valueTo(a));
                }
            }
            return sound;
        }

        private boolean isIdSound(int e, int a) {
            int id = idAt(tree.valueFrom(a), tree.valueTo(a));
            if (id == 0 || elementWithId(id) != NOTHING) {
                return false;
            }
            ids[e] = id;
            return true;
        }

        /** The id that these values tell, or 0, which is none. */
        private int idAt(int from, int to) {
            if (to - from < 1 || to - from > 4 || values.at(from) == '0') {
                return 0;
            }
            int id = 0;
            for (int i = from; i < to; i++) {
                if (!isDigit(values.at(i))) {
                    return 0;
                }
                id = id * 10 + values.at(i) - '0';
            }
            return id;
        }

        private int elementWithId(int id) {
            for (int e = 0; e < ids.length; e++) {
                if (ids[e] == id && id != 0) {
                    return e;
                }
            }
            return NOTHING;
        }

        /** Puts a number or a text into a field; whether it is one. */
        private boolean fills(int object, int field, int from, int to) {
            if (schema.shape(heap.classOf(object), field) == NUMBER) {
                return fillsNumber(object, field, from, to);
            }
            if (!isFieldText(values, from, to)) {
                return false;
            }
            heap.putText(object, field, values, from, to);
            return true;
        }

        private boolean fillsNumber(int object, int field, int from, int to) {
            boolean minus = values.at(from) == '-';
            int first = minus ? from + 1 : from;
            if (to - first < 1 || to - first > 10) {
                return false;
            }
            long v = 0;
            for (int i = first; i < to; i++) {
                if (!isDigit(values.at(i))) {
                    return false;
                }
                v = v * 10 + values.at(i) - '0';
            }
            v = minus ? -v : v;
            if (v != (int) v) {
                return false;
            }
            heap.putHead(object, field, (int) v);
            return true;
        }

        private boolean leads(int e) {
            if (tree.attributeCount(e) != 1 || tree.kidCount(e) > 0 || tree.textTo(e) > tree.textFrom(e)) {
                return false;
            }
            int from = tree.valueFrom(tree.firstAttribute(e));
            int to = tree.valueTo(tree.firstAttribute(e));
            boolean byId = from < to && isDigit(values.at(from));
            int end = byId ? elementWithId(idAt(from, to)) : way.end(e, from, to);
            if (end < 0 || end >= e || roles[end] != OBJECT) {
                return false;
            }
            if (places[e] == NOTHING) {
                heap.putHead(objects[e], fields[e], objects[end]);
                return true;
            }
            heap.putCell(objects[e], fields[e], places[e], objects[end]);
            return schema.spells(heap.classOf(objects[end]), names, tree.nameFrom(e), tree.nameTo(e));
        }
    }

    /** Ways and paths through a tree: where they end, from an element on. */
    private static final class Way {
        private static final int NOWHERE = -2;

        private final Tree tree;
        private final Signs values;

        Way(Tree tree) {
            this.tree = tree;
            this.values = tree.values();
        }

        /** The element that the values from .. to lead to, or NOWHERE. */
        int end(int e, int from, int to) {
            if (from < to && values.at(from) == '/') {
                return down(NOTHING, from + 1, to);
            }
            int at = e;
            int next = from;
            for (int i = from; i < to && goesUp(next, to); i++) {
                at = tree.parent(at);
                next += 2;
                if (at == NOTHING || next == to) {
                    return at == NOTHING ? NOWHERE : at;
                }
                if (values.at(next) != '/') {
                    return NOWHERE;
                }
                next++;
            }
            return down(at, next, to);
        }

        private boolean goesUp(int next, int to) {
            return next + 2 <= to && values.at(next) == '.' && values.at(next + 1) == '.';
        }

        /** Goes at least one step; the root is a step down from NOTHING. */
        private int down(int above, int from, int to) {
            int at = above;
            int next = from;
            for (int i = from; i <= to && next <= to; i++) {
                int stepEnd = placeOf('/', next, to);
                int nameEnd = placeOf('[', next, stepEnd);
                int rank = nameEnd == stepEnd ? 1 : rank(nameEnd + 1, stepEnd);
                at = tree.child(at, next, nameEnd, rank);
                if (at == NOTHING) {
                    return NOWHERE;
                }
                next = stepEnd + 1;
            }
            return at;
        }

        /** What stands behind a [ as a number above 1 and ], or 0, which no child has. */
        private int rank(int from, int to) {
            int last = to - 1;
            if (last <= from || last - from > 3 || values.at(last) != ']' || values.at(from) == '0') {
                return 0;
            }
            int rank = 0;
            for (int i = from; i < last; i++) {
                if (!isDigit(values.at(i))) {
                    return 0;
                }
                rank = rank * 10 + values.at(i) - '0';
            }
            return rank == 1 ? 0 : rank;
        }

        /** Where this sign stands first among the values from .. to, or to. */
        private int placeOf(int u, int from, int to) {
            for (int i = from; i < to; i++) {
                if (values.at(i) == u) {
                    return i;
                }
            }
            return to;
        }
    }

    /** Whether two graphs are the same: objects are paired, each with one, and then their fields compared. */
    private static final class Likeness {
        private final Schema schema;
        private final Heap heap;
        private final Heap other;
        private final int[] partners = new int[MOST_OBJECTS];
        private final int[] partnersBack = new int[MOST_OBJECTS];
        private final int[] queue = new int[MOST_OBJECTS];
        private int queued = 0;

        Likeness(Schema schema, Heap heap, Heap other) {
            this.schema = schema;
            this.heap = heap;
            this.other = other;
        }

        boolean holdsFrom(int root, int otherRoot) {
            Arrays.fill(partners, NONE);
            Arrays.fill(partnersBack, NONE);
            if (!pairs(root, otherRoot)) {
                return false;
            }
            for (int i = 0; i < MOST_OBJECTS && i < queued; i++) {
                if (!areFieldsAlike(queue[i], partners[queue[i]])) {
                    return false;
                }
            }
            return true;
        }

        /** Whether two targets are, or become, one another's partner; or both are none. */
        private boolean pairs(int object, int twin) {
            if (!heap.has(object) || !other.has(twin)) {
                return heap.has(object) == other.has(twin);
            }
            if (partners[object] != NONE || partnersBack[twin] != NONE) {
                return partners[object] == twin;
            }
            if (heap.classOf(object) != other.classOf(twin) || queued >= MOST_OBJECTS) {
                return false;
            }
            partners[object] = twin;
            partnersBack[twin] = object;
            queue[queued] = object;
            queued++;
            return true;
        }

        private boolean areFieldsAlike(int object, int twin) {
            int cls = heap.classOf(object);
            for (int f = 0; f < schema.fieldCount(cls); f++) {
                int shape = schema.shape(cls, f);
                boolean alike = shape == REFERENCE
                        ? pairs(heap.head(object, f), other.head(twin, f))
                        : heap.head(object, f) == other.head(twin, f);
                if (!alike || shape == TEXT && !areTextsAlike(object, twin, f)
                        || shape == LIST && !areListsAlike(object, twin, f)) {
                    return false;
                }
            }
            return true;
        }

        private boolean areTextsAlike(int object, int twin, int field) {
            for (int i = 0; i < MOST_TEXT && i < heap.head(object, field); i++) {
                if (heap.cell(object, field, i) != other.cell(twin, field, i)) {
                    return false;
                }
            }
            return true;
        }

        private boolean areListsAlike(int object, int twin, int field) {
            for (int i = 0; i < MOST_LIST && i < heap.head(object, field); i++) {
                if (!pairs(heap.cell(object, field, i), other.cell(twin, field, i))) {
                    return false;
                }
            }
            return true;
        }
    }
}
