/** A base of objects on a disk that may fail at any block; DOC.md tells what each call promises. */
public final class ObjectBase {
    public static final int BAD = -1;
    public static final int ROOM = -3;
    public static final int DOWN = -4;

    private static final int MAX_CLASSES = 5;
    private static final int MAX_FIELDS = 8;
    private static final int MAX_INDEXES = 3;
    private static final int MAX_PATH = 3;
    private static final int MAX_OBJECTS = 62;
    private static final int MAX_NAMES = 4;
    private static final int MAX_SLOTS = 16;
    private static final int MAX_ARMED = 1000;
    private static final int MAX_QUESTIONS = 12;
    private static final int MAX_TEXT = 60;
    private static final int MAX_NEST = 12;
    private static final int MAX_DIGITS = 10;

    // Each pair of brackets costs two levels (its parts and their factors), each ! and E one.
    private static final int MAX_LEVELS = 2 * MAX_NEST + 4;

    private static final int NUMBER = 0;
    private static final int REFERENCE = 1;
    private static final int SET = 2;

    private static final int VARIABLES = 3;
    private static final int UNARMED = -1;
    private static final int NO_FIELD = -1;
    private static final int NONE = -1;

    // No number is a long this low, and no set of IDs has the sign bit.
    private static final long NO_VALUE = Long.MIN_VALUE;

    private final Schema schema;
    private final Indexes indexes;
    private final Disk disk;
    private final Image kept;
    private final Batch batch;
    private final Text draftText;
    private final Question[] questions;
    private final Reader reader;
    private final Judge judge;
    private final Answer latest;
    private int questionCount;
    private int idsGiven;
    private boolean everBegun;

    public ObjectBase() {
        schema = new Schema();
        indexes = new Indexes();
        disk = new Disk();
        kept = new Image();
        batch = new Batch();
        draftText = new Text();
        questions = new Question[MAX_QUESTIONS + 1];
        reader = new Reader(schema);
        judge = new Judge(kept);
        latest = new Answer();
    }

    public int type(int parent) {
        if (disk.down) {
            return DOWN;
        }
        if (everBegun || schema.classCount == MAX_CLASSES) {
            return BAD;
        }
        if (parent != 0 && !schema.hasClass(parent)) {
            return BAD;
        }
        return schema.addClass(parent);
    }

    public int field(int c, int kind, int target) {
        if (disk.down) {
            return DOWN;
        }
        if (everBegun || schema.fieldCount == MAX_FIELDS) {
            return BAD;
        }
        if (!schema.hasClass(c) || kind < NUMBER || kind > SET) {
            return BAD;
        }
        if (kind != NUMBER && !schema.hasClass(target)) {
            return BAD;
        }
        return schema.addField(c, kind, target);
    }

    public int index(int c, int f, int g, int h) {
        if (disk.down) {
            return DOWN;
        }
        if (batch.open || indexes.count == MAX_INDEXES || !schema.hasClass(c)) {
            return BAD;
        }
        if (f == NO_FIELD || (g == NO_FIELD && h != NO_FIELD)) {
            return BAD;
        }
        if (!schema.leadsToNumber(c, f, g, h)) {
            return BAD;
        }
        return indexes.addIndex(c, f, g, h);
    }

    public boolean begin() {
        if (disk.down || batch.open) {
            return false;
        }
        batch.startFrom(kept, kept.reachedIds(schema));
        everBegun = true;
        return true;
    }

    public int make(int c) {
        if (disk.down) {
            return DOWN;
        }
        if (!batch.open || !schema.hasClass(c) || idsGiven == MAX_OBJECTS) {
            return BAD;
        }
        idsGiven++;
        batch.addObject(idsGiven, c);
        return idsGiven;
    }

    public boolean put(int id, int f, int v) {
        if (!canChange(id, f, NUMBER)) {
            return false;
        }
        batch.setValue(id, f, v);
        return true;
    }

    public boolean point(int id, int f, int target) {
        if (!canChange(id, f, REFERENCE)) {
            return false;
        }
        if (target != 0 && !canHold(f, target)) {
            return false;
        }
        batch.setValue(id, f, target);
        return true;
    }

    public boolean join(int id, int f, int target, boolean in) {
        if (!canChange(id, f, SET) || !canHold(f, target)) {
            return false;
        }
        long before = batch.image.valueOf(id, f);
        long member = setOf(target);
        batch.setValue(id, f, in ? before | member : before & ~member);
        return true;
    }

    public boolean name(int n, int id) {
        if (disk.down || !batch.open || !isName(n)) {
            return false;
        }
        if (id != 0 && !contains(batch.known, id)) {
            return false;
        }
        batch.setName(n, id);
        return true;
    }

    public int commit() {
        if (disk.down) {
            return DOWN;
        }
        if (!batch.open) {
            return BAD;
        }
        if (batch.image.objectCount() > MAX_SLOTS) {
            return ROOM;
        }
        int blocks = batch.blockCount();
        if (!disk.writeLog(blocks)) {
            return goDown();
        }
        // With the mark written the batch holds whatever fails later: recover() only writes it again.
        kept.copyFrom(batch.image);
        batch.open = false;
        return disk.writeHome() ? blocks : goDown();
    }

    public boolean abort() {
        if (disk.down || !batch.open) {
            return false;
        }
        batch.open = false;
        return true;
    }

    public int collect() {
        if (disk.down) {
            return DOWN;
        }
        if (batch.open) {
            return BAD;
        }
        long reachedIds = kept.reachedIds(schema);
        int copies = Long.bitCount(reachedIds);
        int gone = kept.objectCount() - copies;
        if (!disk.writeBlocks(copies + 1)) {
            return goDown();
        }
        kept.keepOnly(reachedIds);
        disk.half = 1 - disk.half;
        return gone;
    }

    public boolean arm(int n) {
        if (disk.down || n < 0 || n > MAX_ARMED) {
            return false;
        }
        disk.armed = n;
        return true;
    }

    public boolean crash() {
        if (disk.down) {
            return false;
        }
        goDown();
        return true;
    }

    public int recover() {
        if (!disk.down) {
            return BAD;
        }
        return disk.restart() ? 1 : 0;
    }

    public int classOf(int id) {
        return disk.down ? 0 : shown().classAt(id);
    }

    public boolean reached(int id) {
        return !disk.down && contains(shown().reachedIds(schema), id);
    }

    public int get(int id, int f) {
        if (disk.down) {
            return DOWN;
        }
        Image image = shown();
        if (!schema.hasField(image.classAt(id), f)) {
            return BAD;
        }
        long value = image.valueOf(id, f);
        return schema.kinds[f] == SET ? Long.bitCount(value) : (int) value;
    }

    public boolean holds(int id, int f, int target) {
        if (disk.down) {
            return false;
        }
        Image image = shown();
        if (!schema.hasFieldOfKind(image.classAt(id), f, SET)) {
            return false;
        }
        return contains(image.valueOf(id, f), target);
    }

    public int named(int n) {
        if (disk.down) {
            return DOWN;
        }
        return isName(n) ? shown().names[n] : BAD;
    }

    public boolean draft(long s) {
        if (disk.down) {
            return false;
        }
        if (s == 0) {
            draftText.length = 0;
            return true;
        }
        return draftText.append(s);
    }

    public int prepare() {
        if (disk.down) {
            return DOWN;
        }
        Question question = spareQuestion();
        question.text.copyFrom(draftText);
        if (!reader.readQuestion(question)) {
            return BAD;
        }
        if (questionCount == MAX_QUESTIONS) {
            return ROOM;
        }
        questionCount++;
        return questionCount - 1;
    }

    public int ask(int q) {
        if (disk.down) {
            return DOWN;
        }
        if (batch.open || q < 0 || q >= questionCount) {
            return BAD;
        }
        answerTo(questions[q]);
        return latest.count();
    }

    public long sum() {
        return disk.down ? 0 : latest.total;
    }

    public int hit(int i) {
        if (disk.down) {
            return DOWN;
        }
        return latest.mode == '*' ? latest.idAt(i) : BAD;
    }

    public int look(int what) {
        switch (what) {
            case 0:
                return disk.down ? DOWN : kept.objectCount();
            case 1:
                return disk.down ? DOWN : Long.bitCount(kept.reachedIds(schema));
            case 2:
                return disk.down ? DOWN : idsGiven;
            case 3:
                return disk.down ? DOWN : disk.half;
            case 4:
                return disk.written;
            case 5:
                return disk.armed;
            case 6:
                return disk.down ? 1 : 0;
            case 7:
                return batch.open ? 1 : 0;
            case 8:
                return latest.looked;
            default:
                return BAD;
        }
    }

    private static long setOf(int id) {
        return id == 0 ? 0 : 1L << id;
    }

    private static boolean contains(long ids, int id) {
        return id >= 1 && id <= MAX_OBJECTS && (ids >>> id & 1) != 0;
    }

    private static boolean isDigit(char c) {
        return c >= '0' && c <= '9';
    }

    private static boolean isName(int n) {
        return n >= 0 && n < MAX_NAMES;
    }

    private Image shown() {
        return batch.open ? batch.image : kept;
    }

    private boolean canChange(int id, int f, int kind) {
        if (disk.down || !batch.open || !contains(batch.known, id)) {
            return false;
        }
        return schema.hasFieldOfKind(batch.image.classAt(id), f, kind);
    }

    private boolean canHold(int f, int target) {
        if (!contains(batch.known, target)) {
            return false;
        }
        return schema.isOf(batch.image.classAt(target), schema.targets[f]);
    }

    private int goDown() {
        disk.down = true;
        batch.open = false;
        latest.forget();
        return DOWN;
    }

    // A draft that is no question leaves its place unused, so the next one is read into it.
    private Question spareQuestion() {
        if (questions[questionCount] == null) {
            questions[questionCount] = new Question();
        }
        return questions[questionCount];
    }

    private void answerTo(Question question) {
        latest.startFor(question.mode);
        int key = indexes.keyOf(question);
        long ids = kept.reachedIds(schema);
        for (int id = 1; id <= MAX_OBJECTS; id++) {
            if (contains(ids, id) && schema.isOf(kept.classAt(id), question.asked)) {
                judge.turnTo(question, id);
                if (judge.hasKey(key)) {
                    latest.looked++;
                    if (judge.fits()) {
                        latest.add(id, judge.amount());
                    }
                }
            }
        }
    }

    /** The classes and their fields. */
    private static final class Schema {
        // For each class the classes that it is, one bit each.
        final int[] above = new int[MAX_CLASSES + 1];
        final int[] owners = new int[MAX_FIELDS];
        final int[] kinds = new int[MAX_FIELDS];
        final int[] targets = new int[MAX_FIELDS];
        int classCount;
        int fieldCount;

        boolean hasClass(int c) {
            return c >= 1 && c <= classCount;
        }

        int addClass(int parent) {
            classCount++;
            above[classCount] = above[parent] | 1 << classCount;
            return classCount;
        }

        int addField(int c, int kind, int target) {
            owners[fieldCount] = c;
            kinds[fieldCount] = kind;
            targets[fieldCount] = kind == NUMBER ? 0 : target;
            fieldCount++;
            return fieldCount - 1;
        }

        boolean isOf(int c, int other) {
            return (above[c] >> other & 1) != 0;
        }

        boolean hasField(int c, int f) {
            return f >= 0 && f < fieldCount && (above[c] >> owners[f] & 1) != 0;
        }

        boolean hasFieldOfKind(int c, int f, int kind) {
            return hasField(c, f) && kinds[f] == kind;
        }

        boolean leadsToNumber(int c, int f, int g, int h) {
            if (g == NO_FIELD) {
                return hasFieldOfKind(c, f, NUMBER);
            }
            if (!hasFieldOfKind(c, f, REFERENCE)) {
                return false;
            }
            if (h == NO_FIELD) {
                return hasFieldOfKind(targets[f], g, NUMBER);
            }
            return hasFieldOfKind(targets[f], g, REFERENCE) && hasFieldOfKind(targets[g], h, NUMBER);
        }
    }

    /**
     * The indexes. What an index knows is worked out from its path when it is asked for: with so few
     * slots a table would save nothing, and it could grow stale.
     */
    private static final class Indexes {
        final int[] classes = new int[MAX_INDEXES];
        final int[] fields = new int[MAX_INDEXES * MAX_PATH];
        int count;

        int addIndex(int c, int f, int g, int h) {
            classes[count] = c;
            fields[count * MAX_PATH] = f;
            fields[count * MAX_PATH + 1] = g;
            fields[count * MAX_PATH + 2] = h;
            count++;
            return count - 1;
        }

        /** The factor by whose number an index finds the objects to look at, or NONE. */
        int keyOf(Question question) {
            if (question.root == NONE) {
                return NONE;
            }
            int part = question.inner[question.root];
            if (question.next[part] != NONE) {
                return NONE;
            }
            int factor = question.inner[part];
            for (int i = 0; i < MAX_TEXT && factor != NONE; i++) {
                if (question.isKeyForm(factor) && hasPath(question, question.left[factor])) {
                    return factor;
                }
                factor = question.next[factor];
            }
            return NONE;
        }

        private boolean hasPath(Question question, int start) {
            for (int i = 0; i < count; i++) {
                if (classes[i] == question.asked && isPathOf(i, question.text, start)) {
                    return true;
                }
            }
            return false;
        }

        private boolean isPathOf(int i, Text text, int start) {
            for (int step = 0; step < MAX_PATH; step++) {
                if (text.fieldOfPath(start, step) != fields[i * MAX_PATH + step]) {
                    return false;
                }
            }
            return text.fieldOfPath(start, MAX_PATH) == NO_FIELD;
        }
    }

    /** Counts blocks, and keeps of the log how many blocks it has and whether the mark is there. */
    private static final class Disk {
        int written;
        int armed = UNARMED;
        int half;
        int logged;
        boolean marked;
        boolean down;

        boolean writeBlock() {
            if (armed == 0) {
                return false;
            }
            if (armed != UNARMED) {
                armed--;
            }
            written++;
            return true;
        }

        boolean writeBlocks(int n) {
            for (int i = 0; i < n; i++) {
                if (!writeBlock()) {
                    return false;
                }
            }
            return true;
        }

        boolean writeLog(int blocks) {
            for (int i = 0; i < blocks; i++) {
                if (!writeBlock()) {
                    return false;
                }
                logged++;
            }
            marked = writeBlock();
            return marked;
        }

        boolean writeHome() {
            if (!writeBlocks(logged) || !writeBlock()) {
                return false;
            }
            logged = 0;
            marked = false;
            return true;
        }

        /** Whether a batch holds by this. */
        boolean restart() {
            armed = UNARMED;
            down = false;
            if (marked) {
                return writeHome();
            }
            if (logged > 0) {
                writeBlock();
                logged = 0;
            }
            return false;
        }
    }

    /** Objects and names as the disk has them, or as the open batch does. */
    private static final class Image {
        final int[] classes = new int[MAX_OBJECTS + 1];
        final long[] values = new long[(MAX_OBJECTS + 1) * MAX_FIELDS];
        final int[] names = new int[MAX_NAMES];

        void copyFrom(Image other) {
            System.arraycopy(other.classes, 0, classes, 0, classes.length);
            System.arraycopy(other.values, 0, values, 0, values.length);
            System.arraycopy(other.names, 0, names, 0, names.length);
        }

        int classAt(int id) {
            return id >= 1 && id <= MAX_OBJECTS ? classes[id] : 0;
        }

        /** A number, an ID (0 for none) or a set of IDs, one bit each; 0 for an ID or field that cannot be. */
        long valueOf(int id, int f) {
            if (id < 1 || id > MAX_OBJECTS || f < 0 || f >= MAX_FIELDS) {
                return 0;
            }
            return values[id * MAX_FIELDS + f];
        }

        int objectCount() {
            int count = 0;
            for (int id = 1; id <= MAX_OBJECTS; id++) {
                if (classes[id] != 0) {
                    count++;
                }
            }
            return count;
        }

        long reachedIds(Schema schema) {
            long found = 0;
            for (int n = 0; n < MAX_NAMES; n++) {
                found |= setOf(names[n]);
            }
            long done = 0;
            for (int round = 0; round < MAX_OBJECTS && found != done; round++) {
                long fresh = found & ~done;
                done = found;
                for (int id = 1; id <= MAX_OBJECTS; id++) {
                    if (contains(fresh, id)) {
                        found |= neighbours(id, schema);
                    }
                }
            }
            return found;
        }

        void keepOnly(long ids) {
            for (int id = 1; id <= MAX_OBJECTS; id++) {
                if (!contains(ids, id)) {
                    classes[id] = 0;
                }
            }
        }

        private long neighbours(int id, Schema schema) {
            long ids = 0;
            for (int f = 0; f < schema.fieldCount; f++) {
                long value = valueOf(id, f);
                if (schema.kinds[f] == REFERENCE) {
                    ids |= setOf((int) value);
                } else if (schema.kinds[f] == SET) {
                    ids |= value;
                }
            }
            return ids;
        }
    }

    /** The changes of one batch, with the objects as it has them. */
    private static final class Batch {
        final Image image = new Image();
        long known;
        long touched;
        boolean namesTouched;
        boolean open;

        void startFrom(Image kept, long reachedIds) {
            image.copyFrom(kept);
            known = reachedIds;
            touched = 0;
            namesTouched = false;
            open = true;
        }

        void addObject(int id, int c) {
            image.classes[id] = c;
            known |= setOf(id);
            touched |= setOf(id);
        }

        void setValue(int id, int f, long value) {
            image.values[id * MAX_FIELDS + f] = value;
            touched |= setOf(id);
        }

        void setName(int n, int id) {
            image.names[n] = id;
            namesTouched = true;
        }

        int blockCount() {
            return Long.bitCount(touched) + (namesTouched ? 1 : 0);
        }
    }

    /** Characters of a draft or a question. */
    private static final class Text {
        final char[] chars = new char[MAX_TEXT];
        int length;

        /** 0 beyond the end, which is no character of a text. */
        char at(int i) {
            return i >= 0 && i < length ? chars[i] : 0;
        }

        void copyFrom(Text other) {
            System.arraycopy(other.chars, 0, chars, 0, MAX_TEXT);
            length = other.length;
        }

        boolean append(long packed) {
            int count = 0;
            for (int i = 0; i < 8 && byteOf(packed, i) != 0; i++) {
                int c = byteOf(packed, i);
                if (c < 33 || c > 126) {
                    return false;
                }
                count++;
            }
            if (count == 0 || length + count > MAX_TEXT) {
                return false;
            }
            for (int i = 0; i < count; i++) {
                chars[length + i] = (char) byteOf(packed, i);
            }
            length += count;
            return true;
        }

        /** Field number step of the path that begins at start, NO_FIELD behind its last one. */
        int fieldOfPath(int start, int step) {
            for (int i = 0; i <= step; i++) {
                if (at(start + 1 + 2 * i) != '.') {
                    return NO_FIELD;
                }
            }
            return at(start + 2 + 2 * step) - 'a';
        }

        private static int byteOf(long packed, int i) {
            return (int) (packed >>> (8 * i)) & 255;
        }
    }

    /**
     * A question that was read: a tree of nodes in rows. An operand or a path is told by where it
     * begins in the text.
     */
    private static final class Question {
        static final int ANY = 0;
        static final int ALL = 1;
        static final int NOT = 2;
        static final int SOME = 3;
        static final int EQUAL = 4;
        static final int LESS = 5;
        static final int MORE = 6;

        final Text text = new Text();
        // By the place in the text where the number begins.
        final int[] numbers = new int[MAX_TEXT];
        final int[] kinds = new int[MAX_TEXT];
        final int[] inner = new int[MAX_TEXT];
        final int[] next = new int[MAX_TEXT];
        // Of a comparison, where its operands begin; of SOME, where its variable and its path do.
        final int[] left = new int[MAX_TEXT];
        final int[] right = new int[MAX_TEXT];
        int nodeCount;
        int root;
        int asked;
        char mode;

        void clear() {
            nodeCount = 0;
            root = NONE;
        }

        /** Every node has a character of its own in the text, so the rows are long enough. */
        int addNode(int kind, int firstInner) {
            if (nodeCount == MAX_TEXT) {
                return NONE;
            }
            int node = nodeCount;
            nodeCount++;
            kinds[node] = kind;
            inner[node] = firstInner;
            next[node] = NONE;
            return node;
        }

        int addPair(int kind, int firstInner, int leftStart, int rightStart) {
            int node = addNode(kind, firstInner);
            if (node != NONE) {
                left[node] = leftStart;
                right[node] = rightStart;
            }
            return node;
        }

        /** Puts a node behind the last one of a list, or at its head if last is NONE. */
        void link(int list, int last, int node) {
            if (last == NONE) {
                inner[list] = node;
            } else {
                next[last] = node;
            }
        }

        /** Whether a factor of the condition is a path from x, = and a number. */
        boolean isKeyForm(int factor) {
            if (kinds[factor] != EQUAL || text.at(left[factor]) != 'x') {
                return false;
            }
            char first = text.at(right[factor]);
            return first == '-' || isDigit(first);
        }
    }

    /** Reads a text as a question and checks its types. Where it finds a fault there is no node: NONE. */
    private static final class Reader {
        private static final int FAULT = -1;

        private final Schema schema;
        // The class of x, y and z; 0 where the variable does not stand.
        private final int[] standing = new int[VARIABLES];
        private Question question;
        private Text text;
        private int place;
        // The class to which the path that was read last leads.
        private int ledTo;

        Reader(Schema schema) {
            this.schema = schema;
        }

        boolean readQuestion(Question into) {
            question = into;
            text = into.text;
            question.clear();
            if (!readHead()) {
                return false;
            }
            if (place == text.length) {
                return true;
            }
            if (take() != '?') {
                return false;
            }
            question.root = readList(Question.ANY, 0);
            return question.root != NONE && place == text.length;
        }

        private boolean readHead() {
            question.mode = text.at(0);
            if (question.mode != '*' && question.mode != '#' && question.mode != '+') {
                return false;
            }
            int classPlace = question.mode == '+' ? endOfPath(1) : 1;
            question.asked = text.at(classPlace) - 'A' + 1;
            if (!schema.hasClass(question.asked)) {
                return false;
            }
            standing[0] = question.asked;
            standing[1] = 0;
            standing[2] = 0;
            place = 1;
            // The path stands before the class from which it leads, so it is read behind it.
            if (question.mode == '+' && readPath() != NUMBER) {
                return false;
            }
            place = classPlace + 1;
            return true;
        }

        private int endOfPath(int start) {
            int end = start + 1;
            for (int i = 0; i < MAX_TEXT && text.at(end) == '.'; i++) {
                end += 2;
            }
            return end;
        }

        private char peek() {
            return place < text.length ? text.chars[place] : 0;
        }

        private char take() {
            char c = place < text.length ? text.chars[place] : 0;
            place++;
            return c;
        }

        /** ANY: a condition, a list of parts; ALL: a part, a list of factors. */
        private int readList(int kind, int depth) {
            int list = question.addNode(kind, NONE);
            char between = kind == Question.ANY ? '|' : '&';
            int last = NONE;
            for (int i = 0; i < MAX_TEXT && list != NONE; i++) {
                int node = kind == Question.ANY ? readList(Question.ALL, depth) : readFactor(depth);
                if (node == NONE) {
                    return NONE;
                }
                question.link(list, last, node);
                last = node;
                if (peek() != between) {
                    return list;
                }
                place++;
            }
            return NONE;
        }

        private int readFactor(int depth) {
            char first = peek();
            if (first != '!' && first != '(' && first != 'E') {
                return readComparison();
            }
            if (depth >= MAX_NEST) {
                return NONE;
            }
            place++;
            if (first == '!') {
                return readNot(depth + 1);
            }
            return first == '(' ? readBrackets(depth + 1) : readSome(depth + 1);
        }

        private int readNot(int depth) {
            int factor = readFactor(depth);
            return factor == NONE ? NONE : question.addNode(Question.NOT, factor);
        }

        private int readBrackets(int depth) {
            int condition = readList(Question.ANY, depth);
            return take() == ')' ? condition : NONE;
        }

        private int readSome(int depth) {
            int variablePlace = place;
            int variable = take() - 'x';
            if (variable < 1 || variable >= VARIABLES || standing[variable] != 0) {
                return NONE;
            }
            int pathPlace = place;
            if (readPath() != SET || take() != ':') {
                return NONE;
            }
            standing[variable] = ledTo;
            int factor = readFactor(depth);
            standing[variable] = 0;
            return factor == NONE ? NONE : question.addPair(Question.SOME, factor, variablePlace, pathPlace);
        }

        private int readComparison() {
            int leftPlace = place;
            int type = readOperand();
            if (type != NUMBER && type != REFERENCE) {
                return NONE;
            }
            int kind = kindOfSign(take());
            if (kind == FAULT || (kind != Question.EQUAL && type != NUMBER)) {
                return NONE;
            }
            int rightPlace = place;
            if (readOperand() != type) {
                return NONE;
            }
            return question.addPair(kind, NONE, leftPlace, rightPlace);
        }

        private static int kindOfSign(char sign) {
            if (sign == '=') {
                return Question.EQUAL;
            }
            if (sign == '<') {
                return Question.LESS;
            }
            return sign == '>' ? Question.MORE : FAULT;
        }

        /** The operand's type. */
        private int readOperand() {
            if (peek() == 'n') {
                place++;
                return REFERENCE;
            }
            if (peek() == '-' || isDigit(peek())) {
                return readNumber();
            }
            return readPath();
        }

        private int readNumber() {
            int start = place;
            boolean minus = peek() == '-';
            if (minus) {
                place++;
            }
            long value = 0;
            int digits = 0;
            while (digits <= MAX_DIGITS && isDigit(peek())) {
                value = value * 10 + (take() - '0');
                digits++;
            }
            value = minus ? -value : value;
            if (digits == 0 || digits > MAX_DIGITS || value != (int) value) {
                return FAULT;
            }
            question.numbers[start] = (int) value;
            return NUMBER;
        }

        /** The path's type. */
        private int readPath() {
            int variable = take() - 'x';
            if (variable < 0 || variable >= VARIABLES || standing[variable] == 0) {
                return FAULT;
            }
            ledTo = standing[variable];
            int kind = REFERENCE;
            for (int i = 0; i < MAX_TEXT && peek() == '.'; i++) {
                place++;
                int f = take() - 'a';
                if (kind != REFERENCE || !schema.hasField(ledTo, f)) {
                    return FAULT;
                }
                kind = schema.kinds[f];
                ledTo = schema.targets[f];
            }
            return kind;
        }
    }

    /** Judges one object at a time by a question. */
    private static final class Judge {
        private final Image image;
        private final int[] bound = new int[VARIABLES];
        private Question question;

        Judge(Image image) {
            this.image = image;
        }

        void turnTo(Question by, int id) {
            question = by;
            bound[0] = id;
        }

        /** Whether the index that serves the factor key has the object with its number. */
        boolean hasKey(int key) {
            return key == NONE || isEqual(key);
        }

        boolean fits() {
            return question.root == NONE || isTrue(question.root, 0);
        }

        /** What the object adds to the total. */
        long amount() {
            if (question.mode != '+') {
                return 1;
            }
            long number = valueFrom(1);
            return number == NO_VALUE ? 0 : number;
        }

        private boolean isTrue(int node, int level) {
            if (level > MAX_LEVELS) {
                return false;
            }
            switch (question.kinds[node]) {
                case Question.ANY:
                    return hasInner(node, true, level);
                case Question.ALL:
                    return !hasInner(node, false, level);
                case Question.NOT:
                    return !isTrue(question.inner[node], level + 1);
                case Question.SOME:
                    return isTrueForSome(node, level);
                case Question.EQUAL:
                    return isEqual(node);
                default:
                    return isInOrder(node);
            }
        }

        private boolean hasInner(int node, boolean sought, int level) {
            int at = question.inner[node];
            for (int i = 0; i < MAX_TEXT && at != NONE; i++) {
                if (isTrue(at, level + 1) == sought) {
                    return true;
                }
                at = question.next[at];
            }
            return false;
        }

        private boolean isTrueForSome(int node, int level) {
            long members = valueFrom(question.right[node]);
            if (members == NO_VALUE) {
                return false;
            }
            int variable = question.text.at(question.left[node]) - 'x';
            for (int id = 1; id <= MAX_OBJECTS; id++) {
                if (contains(members, id)) {
                    bound[variable] = id;
                    if (isTrue(question.inner[node], level + 1)) {
                        return true;
                    }
                }
            }
            return false;
        }

        private boolean isEqual(int node) {
            long left = valueFrom(question.left[node]);
            return left != NO_VALUE && left == valueFrom(question.right[node]);
        }

        private boolean isInOrder(int node) {
            long left = valueFrom(question.left[node]);
            long right = valueFrom(question.right[node]);
            if (left == NO_VALUE || right == NO_VALUE) {
                return false;
            }
            return question.kinds[node] == Question.LESS ? left < right : left > right;
        }

        private long valueFrom(int start) {
            char first = question.text.at(start);
            if (first == 'n') {
                return 0;
            }
            int variable = first - 'x';
            if (variable < 0 || variable >= VARIABLES) {
                return question.numbers[start];
            }
            long value = bound[variable];
            int dot = start + 1;
            for (int i = 0; i < MAX_TEXT && question.text.at(dot) == '.'; i++) {
                if (value == 0) {
                    return NO_VALUE;
                }
                value = image.valueOf((int) value, question.text.at(dot + 1) - 'a');
                dot += 2;
            }
            return value;
        }
    }

    /** What was asked latest; mode 0 if nothing was. */
    private static final class Answer {
        char mode;
        long fitting;
        long total;
        int looked;

        void forget() {
            startFor((char) 0);
        }

        void startFor(char newMode) {
            mode = newMode;
            fitting = 0;
            total = 0;
            looked = 0;
        }

        void add(int id, long amount) {
            fitting |= setOf(id);
            total += amount;
        }

        int count() {
            return Long.bitCount(fitting);
        }

        int idAt(int i) {
            int before = 0;
            for (int id = 1; id <= MAX_OBJECTS; id++) {
                if (contains(fitting, id)) {
                    if (before == i) {
                        return id;
                    }
                    before++;
                }
            }
            return BAD;
        }
    }
}
