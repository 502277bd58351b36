/** The edges of promises 1 to 4: a new object, type, field, index. */
public final class SchemaEdgesTest {
    private static final Due DUE = new Due("SchemaEdgesTest");
    private static final int BAD = ObjectBase.BAD;
    private static final int DOWN = ObjectBase.DOWN;
    private static final int[] FAR = {Integer.MIN_VALUE, -65, -64, -33, -32, -2, -1, 31, 32, 33, 63, 64, 65, Integer.MAX_VALUE};

    public static void main(String[] args) {
        nothingIsThereAtFirst();
        nothingIsSharedByTwoBases();
        fiveClasses();
        classesThatCanBeExtended();
        classesEndWithTheFirstBatch();
        aClassIsAllThatItExtends();
        eightFields();
        classesOfFields();
        kindsOfFields();
        targetsOfFields();
        targetsOfNumbers();
        fieldsEndWithTheFirstBatch();
        threeIndexes();
        classesOfIndexes();
        endsOfIndexPaths();
        fieldsOfIndexPaths();
        typesOfIndexPaths();
        timesOfIndexes();
        refusedWhileDown();
        DUE.end();
    }

    private static void nothingIsThereAtFirst() {
        DUE.sentence("No classes, no objects; slots of the first half, nothing written, not armed.");
        int[] want = {0, 0, 0, 0, 0, -1, 0, 0, 0};
        ObjectBase x = new ObjectBase();
        for (int what = 0; what < want.length; what++) {
            DUE.is("look(" + what + ")", x.look(what), want[what]);
        }
        for (int id = 0; id <= 63; id++) {
            DUE.is("classOf(" + id + ")", x.classOf(id), 0);
            DUE.no("reached(" + id + ")", x.reached(id));
            DUE.is("get(" + id + ", 0)", x.get(id, 0), BAD);
        }
        DUE.is("type(1)", x.type(1), BAD);
        DUE.is("field(1, 0, 0)", x.field(1, 0, 0), BAD);
        DUE.is("index(1, 0, -1, -1)", x.index(1, 0, -1, -1), BAD);
        DUE.is("ask(0)", x.ask(0), BAD);
        DUE.is("#A", Texts.prepare(x, "#A"), BAD);
        DUE.yes("begin()", x.begin());
        DUE.is("make(1)", x.make(1), BAD);
        DUE.is("make(0)", x.make(0), BAD);
        DUE.is("commit()", x.commit(), 0);
        DUE.is("its mark and its end", x.look(4), 2);

        DUE.sentence("The NAMES 0 .. 3 each name an object or none (at first).");
        for (int n = 0; n <= 3; n++) {
            DUE.is("named(" + n + ")", new ObjectBase().named(n), 0);
        }
        DUE.sentence("behind the DRAFT (none at first)");
        DUE.is("prepare()", new ObjectBase().prepare(), BAD);
        ObjectBase y = Bases.withClasses(1);
        DUE.yes("60 characters", Texts.draft(y, "#A?" + "n=n&".repeat(13) + "00=00"));
        DUE.is("prepare()", y.prepare(), 0);
        DUE.sentence("0 if nothing was asked.");
        DUE.is("sum()", new ObjectBase().sum(), 0);
        DUE.sentence("how many objects were looked at by what was asked latest (0 if nothing was)");
        DUE.is("look(8)", new ObjectBase().look(8), 0);
    }

    private static void nothingIsSharedByTwoBases() {
        DUE.sentence("No classes, no objects; slots of the first half, nothing written, not armed.");
        ObjectBase x = Bases.small();
        x.collect();
        x.arm(9);
        ObjectBase y = new ObjectBase();
        DUE.is("look(0) of another", y.look(0), 0);
        DUE.is("look(2) of another", y.look(2), 0);
        DUE.is("look(3) of another", y.look(3), 0);
        DUE.is("look(4) of another", y.look(4), 0);
        DUE.is("look(5) of another", y.look(5), -1);
        DUE.is("type(0) of another", y.type(0), 1);
        DUE.is("field(1, 0, 0) of another", y.field(1, 0, 0), 0);
        DUE.is("index of another", y.index(1, 0, -1, -1), 0);
        DUE.is("question of another", Texts.prepare(y, "#A"), 0);
    }

    private static void fiveClasses() {
        DUE.sentence("CLASSES are numbered 1, 2, .., at most 5");
        ObjectBase x = new ObjectBase();
        for (int c = 1; c <= 5; c++) {
            DUE.is("type(0)", x.type(0), c);
        }
        DUE.is("a field of the fifth", x.field(5, 0, 0), 0);
        DUE.is("a field of a sixth", x.field(6, 0, 0), BAD);

        DUE.sentence("parent is neither 0 nor a class, five are there, or a batch was begun before.");
        for (int parent = 0; parent <= 6; parent++) {
            int p = parent;
            Twins.refused(DUE, "a sixth, type(" + p + ")", () -> Bases.withClasses(5), y -> y.type(p), BAD);
        }
    }

    private static void classesThatCanBeExtended() {
        DUE.sentence("a class may EXTEND one with a lesser number");
        for (int count = 1; count <= 4; count++) {
            for (int parent = 0; parent <= count; parent++) {
                DUE.is(count + " classes, type(" + parent + ")", Bases.withClasses(count).type(parent), count + 1);
            }
        }
        DUE.sentence("parent is neither 0 nor a class");
        for (int count = 0; count <= 4; count++) {
            int c = count;
            for (int parent = count + 1; parent <= 6; parent++) {
                int p = parent;
                Twins.refused(DUE, c + " classes, type(" + p + ")", () -> Bases.withClasses(c), y -> y.type(p), BAD);
            }
            for (int p : FAR) {
                Twins.refused(DUE, c + " classes, type(" + p + ")", () -> Bases.withClasses(c), y -> y.type(p), BAD);
            }
        }
    }

    private static void classesEndWithTheFirstBatch() {
        DUE.sentence("five are there, or a batch was begun before");
        Twins.refused(DUE, "type(0) in a batch", () -> Bases.begun(Bases.withClasses(1)), y -> y.type(0), BAD);
        Twins.refused(DUE, "type(0) behind an abort", SchemaEdgesTest::aborted, y -> y.type(0), BAD);
        Twins.refused(DUE, "type(0) behind a commit", SchemaEdgesTest::committed, y -> y.type(0), BAD);
        Twins.refused(DUE, "type(0) behind a batch that is gone", SchemaEdgesTest::recovered, y -> y.type(0), BAD);
        ObjectBase x = Bases.withClasses(4);
        x.collect();
        x.crash();
        DUE.no("begin() while down", x.begin());
        x.recover();
        DUE.is("type(0), no batch was begun", x.type(0), 5);
    }

    private static ObjectBase aborted() {
        ObjectBase x = Bases.begun(Bases.withClasses(1));
        x.abort();
        return x;
    }

    private static ObjectBase committed() {
        ObjectBase x = Bases.begun(Bases.withClasses(1));
        x.commit();
        return x;
    }

    private static ObjectBase recovered() {
        ObjectBase x = Bases.begun(Bases.withClasses(1));
        x.crash();
        x.recover();
        return x;
    }

    /** Each class extends the one before it and has a number of its own. */
    private static ObjectBase ladder() {
        ObjectBase x = new ObjectBase();
        for (int c = 1; c <= 5; c++) {
            x.type(c - 1);
            x.field(c, 0, 0);
        }
        x.field(3, 1, 3);
        x.begin();
        for (int c = 1; c <= 5; c++) {
            x.make(c);
        }
        return x;
    }

    private static void aClassIsAllThatItExtends() {
        DUE.sentence("A class IS itself, the class that it extends, the one that this extends, and so on.");
        ObjectBase x = ladder();
        for (int id = 1; id <= 5; id++) {
            for (int f = 0; f < 5; f++) {
                DUE.is("put(" + id + ", " + f + ", 1)", x.put(id, f, 1) ? 1 : 0, f < id ? 1 : 0);
                DUE.is("get(" + id + ", " + f + ")", x.get(id, f), f < id ? 1 : BAD);
            }
        }
        DUE.sentence("(\"An object of a class\": its class IS that one.)");
        for (int target = 1; target <= 5; target++) {
            DUE.is("point(3, 5, " + target + ")", x.point(3, 5, target) ? 1 : 0, target >= 3 ? 1 : 0);
        }
        for (int n = 0; n < 4; n++) {
            x.name(n, n + 1);
        }
        x.commit();
        int[] want = {5, 4, 3, 2, 1};
        for (int c = 1; c <= 5; c++) {
            String text = "#" + (char) ('A' + c - 1);
            DUE.is(text, x.ask(Texts.prepare(x, text)), want[c - 1]);
        }
        ObjectBase y = Bases.withClasses(2);
        y.field(1, 1, 1);
        y.begin();
        y.make(1);
        y.make(2);
        DUE.no("a class that extends none is no other", y.point(1, 0, 2));
        DUE.no("nor has it the field of another", y.point(2, 0, 1));
    }

    private static ObjectBase withFields(int count) {
        ObjectBase x = Bases.withClasses(2);
        for (int i = 0; i < count; i++) {
            x.field(1, i % 3, 2);
        }
        return x;
    }

    private static void eightFields() {
        DUE.sentence("FIELDS are numbered 0, 1, .., at most 8");
        ObjectBase x = Bases.withClasses(2);
        for (int f = 0; f < 8; f++) {
            DUE.is("field " + f, x.field(1 + f % 2, f % 3, 1), f);
        }
        DUE.sentence("kind is not 0 and there is no class target, eight are there, or a batch was begun before");
        for (int kind = 0; kind <= 2; kind++) {
            int k = kind;
            Twins.refused(DUE, "a ninth of kind " + k, () -> withFields(8), y -> y.field(2, k, 1), BAD);
            DUE.is("an eighth of kind " + k, withFields(7).field(2, k, 1), 7);
        }
    }

    private static void classesOfFields() {
        DUE.sentence("BAD: there is no class c, kind is not 0 .. 2");
        for (int count = 0; count <= 5; count++) {
            int n = count;
            for (int c = 1; c <= count; c++) {
                DUE.is(n + " classes, field(" + c + ", 0, 0)", Bases.withClasses(n).field(c, 0, 0), 0);
            }
            for (int c = count + 1; c <= 6; c++) {
                int no = c;
                Twins.refused(DUE, n + " classes, field(" + c + ", 0, 0)", () -> Bases.withClasses(n), y -> y.field(no, 0, 0), BAD);
            }
            Twins.refused(DUE, n + " classes, field(0, 0, 0)", () -> Bases.withClasses(n), y -> y.field(0, 0, 0), BAD);
        }
        for (int c : FAR) {
            Twins.refused(DUE, "field(" + c + ", 0, 0)", () -> Bases.withClasses(5), y -> y.field(c, 0, 0), BAD);
        }
    }

    private static void kindsOfFields() {
        DUE.sentence("is of a KIND: 0 NUMBER, an int; 1 REFERENCE, to an object of a class or to none; 2 SET, of objects of a class.");
        ObjectBase x = Bases.withClasses(1);
        for (int kind = 0; kind <= 2; kind++) {
            DUE.is("field(1, " + kind + ", 1)", x.field(1, kind, 1), kind);
        }
        x.begin();
        x.make(1);
        for (int f = 0; f <= 2; f++) {
            DUE.is("put on kind " + f, x.put(1, f, 1) ? 1 : 0, f == 0 ? 1 : 0);
            DUE.is("point on kind " + f, x.point(1, f, 1) ? 1 : 0, f == 1 ? 1 : 0);
            DUE.is("join on kind " + f, x.join(1, f, 1, true) ? 1 : 0, f == 2 ? 1 : 0);
        }
        DUE.sentence("kind is not 0 .. 2");
        Twins.refused(DUE, "field(1, 3, 1)", () -> Bases.withClasses(1), y -> y.field(1, 3, 1), BAD);
        for (int kind : FAR) {
            Twins.refused(DUE, "field(1, " + kind + ", 1)", () -> Bases.withClasses(1), y -> y.field(1, kind, 1), BAD);
        }
    }

    private static void targetsOfFields() {
        DUE.sentence("kind is not 0 and there is no class target");
        for (int kind = 1; kind <= 2; kind++) {
            int k = kind;
            for (int target = 1; target <= 3; target++) {
                DUE.is("field(1, " + k + ", " + target + ")", Bases.withClasses(3).field(1, k, target), 0);
            }
            Twins.refused(DUE, "field(1, " + k + ", 0)", () -> Bases.withClasses(3), y -> y.field(1, k, 0), BAD);
            Twins.refused(DUE, "field(1, " + k + ", 4)", () -> Bases.withClasses(3), y -> y.field(1, k, 4), BAD);
            Twins.refused(DUE, "field(1, " + k + ", 6)", () -> Bases.withClasses(5), y -> y.field(1, k, 6), BAD);
            for (int t : FAR) {
                Twins.refused(DUE, "field(1, " + k + ", " + t + ")", () -> Bases.withClasses(5), y -> y.field(1, k, t), BAD);
            }
        }
    }

    private static void targetsOfNumbers() {
        DUE.sentence("to a class (it does not count for numbers)");
        ObjectBase x = Bases.withClasses(1);
        int[] targets = {0, 2, -1, 6, Integer.MIN_VALUE, Integer.MAX_VALUE};
        for (int i = 0; i < targets.length; i++) {
            DUE.is("field(1, 0, " + targets[i] + ")", x.field(1, 0, targets[i]), i);
        }
        x.begin();
        x.make(1);
        x.name(0, 1);
        for (int f = 0; f < targets.length; f++) {
            DUE.yes("put(1, " + f + ", 62)", x.put(1, f, 62));
        }
        x.commit();
        DUE.is("a number names no object, look(1)", x.look(1), 1);
        DUE.is("+x.fA?x.a=62", x.ask(Texts.prepare(x, "+x.fA?x.a=62")), 1);
        DUE.is("its sum", x.sum(), 62);
    }

    private static void fieldsEndWithTheFirstBatch() {
        DUE.sentence("eight are there, or a batch was begun before");
        Twins.refused(DUE, "field(1, 0, 0) in a batch", () -> Bases.begun(Bases.withClasses(1)), y -> y.field(1, 0, 0), BAD);
        Twins.refused(DUE, "field(1, 0, 0) behind an abort", SchemaEdgesTest::aborted, y -> y.field(1, 0, 0), BAD);
        Twins.refused(DUE, "field(1, 0, 0) behind a commit", SchemaEdgesTest::committed, y -> y.field(1, 0, 0), BAD);
        Twins.refused(DUE, "field(1, 0, 0) behind a batch that is gone", SchemaEdgesTest::recovered, y -> y.field(1, 0, 0), BAD);
        ObjectBase x = withFields(7);
        x.collect();
        x.crash();
        DUE.no("begin() while down", x.begin());
        x.recover();
        DUE.is("field(1, 0, 0), no batch was begun", x.field(1, 0, 0), 7);
    }

    private static ObjectBase withIndexes(int count) {
        ObjectBase x = Bases.schema();
        for (int i = 0; i < count; i++) {
            x.index(1, 0, -1, -1);
        }
        return x;
    }

    private static void threeIndexes() {
        DUE.sentence("INDEXES, at most 3: a class and a path of 1 to 3 fields");
        DUE.is("the first", withIndexes(0).index(1, 0, -1, -1), 0);
        DUE.is("the second", withIndexes(1).index(1, 1, 0, -1), 1);
        DUE.is("the third", withIndexes(2).index(2, 4, 7, 0), 2);
        DUE.sentence("there is no class c, three are there");
        Twins.refused(DUE, "a fourth", () -> withIndexes(3), y -> y.index(1, 0, -1, -1), BAD);
        Twins.refused(DUE, "a fourth over another path", () -> withIndexes(3), y -> y.index(2, 4, 7, 0), BAD);
        ObjectBase x = Bases.small();
        x.index(1, 1, 0, -1);
        x.index(2, 0, -1, -1);
        DUE.is("a fourth", x.index(3, 5, -1, -1), BAD);
        DUE.is("*C?x.f=11", x.ask(Texts.prepare(x, "*C?x.f=11")), 0);
        DUE.is("a fourth serves no question", x.look(8), 1);
        DUE.is("*B?x.a=1", x.ask(Texts.prepare(x, "*B?x.a=1")), 0);
        DUE.is("the third does", x.look(8), 0);
    }

    private static void classesOfIndexes() {
        DUE.sentence("there is no class c, three are there");
        DUE.is("the last class", Bases.schema().index(3, 5, -1, -1), 0);
        int[] classes = {0, 4, 5, 6};
        for (int c : classes) {
            Twins.refused(DUE, "index(" + c + ", 5, -1, -1)", Bases::schema, y -> y.index(c, 5, -1, -1), BAD);
        }
        for (int c : FAR) {
            Twins.refused(DUE, "index(" + c + ", 0, -1, -1)", Bases::schema, y -> y.index(c, 0, -1, -1), BAD);
        }
    }

    private static void endsOfIndexPaths() {
        DUE.sentence("f is -1 or g is -1 and h is not");
        int[][] paths = {{-1, -1, -1}, {-1, 0, -1}, {-1, -1, 0}, {-1, 1, 0}, {-1, 0, 0}, {0, -1, 0}, {1, -1, 0}, {0, -1, -2}, {0, -1, 8}};
        for (int[] p : paths) {
            refusedPath(1, p[0], p[1], p[2]);
        }
        DUE.sentence("a path of fields (-1 behind its last one): its number.");
        DUE.is("one field", Bases.schema().index(1, 0, -1, -1), 0);
        DUE.is("two fields", Bases.schema().index(1, 1, 0, -1), 0);
        DUE.is("three fields", Bases.schema().index(1, 1, 1, 0), 0);
        DUE.is("three fields of three classes", Bases.schema().index(2, 4, 7, 0), 0);
    }

    private static void refusedPath(int c, int f, int g, int h) {
        String call = "index(" + c + ", " + f + ", " + g + ", " + h + ")";
        Twins.refused(DUE, call, Bases::schema, y -> y.index(c, f, g, h), BAD);
    }

    private static void fieldsOfIndexPaths() {
        DUE.sentence("or it is no such path to a number");
        refusedPath(1, 8, -1, -1);
        refusedPath(1, 1, 8, -1);
        refusedPath(1, 1, 1, 8);
        for (int f : FAR) {
            if (f != -1) {
                refusedPath(1, f, -1, -1);
                refusedPath(1, 1, f, -1);
                refusedPath(1, 1, 1, f);
            }
        }
        ObjectBase x = withFields(7);
        DUE.is("the last field that is there", x.index(1, 6, -1, -1), 0);
        DUE.is("the first that is not", x.index(1, 7, -1, -1), BAD);
        x.field(1, 0, 0);
        DUE.is("now it is", x.index(1, 7, -1, -1), 1);
    }

    private static void typesOfIndexPaths() {
        DUE.sentence("a path of 1 to 3 fields, the last a number, as a path from x");
        int[][] wrong = {
            {1, 1, -1, -1}, {1, 2, -1, -1}, {1, 1, 1, -1}, {1, 1, 2, -1}, {1, 1, 1, 1}, {1, 1, 1, 2},
            {1, 0, 0, -1}, {1, 2, 0, -1}, {1, 1, 0, 0}, {1, 1, 2, 0}, {1, 0, 1, 0}, {1, 2, 1, 0},
            {1, 3, -1, -1}, {1, 1, 3, -1}, {1, 1, 1, 3}, {1, 5, -1, -1}, {1, 4, 5, -1}, {3, 0, -1, -1}, {2, 5, -1, -1},
            {2, 4, 0, -1}, {2, 4, 7, 3}, {3, 7, 3, -1}, {3, 7, 4, 5}, {3, 6, 3, -1}, {2, 4, 6, 3},
        };
        for (int[] p : wrong) {
            refusedPath(p[0], p[1], p[2], p[3]);
        }
        int[][] right = {{2, 0, -1, -1}, {2, 3, -1, -1}, {2, 1, 0, -1}, {2, 4, 5, -1}, {3, 5, -1, -1}, {3, 7, 0, -1}, {3, 7, 1, 0}};
        for (int[] p : right) {
            String call = "index(" + p[0] + ", " + p[1] + ", " + p[2] + ", " + p[3] + ")";
            DUE.is(call, Bases.schema().index(p[0], p[1], p[2], p[3]), 0);
        }
    }

    private static void timesOfIndexes() {
        DUE.sentence("(At any time but while a batch is open: BAD.)");
        Twins.refused(DUE, "index in a batch", Bases::inBatch, y -> y.index(1, 0, -1, -1), BAD);
        Twins.refused(DUE, "index in an empty batch", () -> Bases.begun(Bases.schema()), y -> y.index(1, 0, -1, -1), BAD);
        ObjectBase x = Bases.inBatch();
        x.abort();
        DUE.is("index behind an abort", x.index(1, 1, 0, -1), 1);
        Bases.begun(x).commit();
        DUE.is("index behind a commit", x.index(3, 5, -1, -1), 2);
        ObjectBase y = Bases.cutCommit(2);
        DUE.is("index while down", y.index(1, 1, 0, -1), DOWN);
        y.recover();
        DUE.is("index behind that", y.index(1, 1, 0, -1), 1);
    }

    private static void refusedWhileDown() {
        DUE.sentence("A base that is down refuses every call but recover() and look()");
        int[] numbers = {0, 1, 6, -1, Integer.MAX_VALUE};
        for (int n : numbers) {
            Twins.refused(DUE, "type(" + n + ")", () -> Bases.crashed(Bases.withClasses(5)), y -> y.type(n), DOWN);
            Twins.refused(DUE, "field(" + n + ", 0, 0)", () -> Bases.crashed(Bases.schema()), y -> y.field(n, 0, 0), DOWN);
            Twins.refused(DUE, "index(" + n + ", 0, -1, -1)", () -> Bases.crashed(withIndexes(3)), y -> y.index(n, 0, -1, -1), DOWN);
        }
        Twins.refused(DUE, "type(0) that could be", () -> Bases.crashed(Bases.withClasses(4)), y -> y.type(0), DOWN);
        Twins.refused(DUE, "field(1, 0, 0) that could be", () -> Bases.crashed(withFields(7)), y -> y.field(1, 0, 0), DOWN);
        Twins.refused(DUE, "index that could be", () -> Bases.crashed(withIndexes(2)), y -> y.index(1, 0, -1, -1), DOWN);
    }
}
