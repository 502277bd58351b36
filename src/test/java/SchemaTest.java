/** Promises 1 to 4: a new object, type, field, index. */
public final class SchemaTest {
    private static final Due DUE = new Due("SchemaTest");

    public static void main(String[] args) {
        newObject();
        types();
        typesAndFieldsEndWithTheFirstBatch();
        fields();
        fieldsOfParents();
        indexes();
        indexPaths();
        indexTimes();
        downComesFirst();
        DUE.end();
    }

    private static void newObject() {
        ObjectBase x = new ObjectBase();
        int[] want = {0, 0, 0, 0, 0, -1, 0, 0, 0};
        for (int what = 0; what < want.length; what++) {
            DUE.is("new look(" + what + ")", x.look(what), want[what]);
        }
        for (int n = 0; n < 4; n++) {
            DUE.is("new named(" + n + ")", x.named(n), 0);
        }
        DUE.is("new classOf(1)", x.classOf(1), 0);
        DUE.is("new sum()", x.sum(), 0);
        DUE.is("new hit(0)", x.hit(0), ObjectBase.BAD);
        DUE.is("new prepare()", x.prepare(), ObjectBase.BAD);
        DUE.is("new commit()", x.commit(), ObjectBase.BAD);
        DUE.is("new recover()", x.recover(), ObjectBase.BAD);
        DUE.is("new field(1, 0, 0)", x.field(1, 0, 0), ObjectBase.BAD);
        DUE.is("new index(1, 0, -1, -1)", x.index(1, 0, -1, -1), ObjectBase.BAD);
    }

    private static void types() {
        ObjectBase x = new ObjectBase();
        DUE.is("type(1), no class yet", x.type(1), ObjectBase.BAD);
        DUE.is("type(-1)", x.type(-1), ObjectBase.BAD);
        DUE.is("type(0)", x.type(0), 1);
        DUE.is("type(2), its own number", x.type(2), ObjectBase.BAD);
        DUE.is("type(1)", x.type(1), 2);
        DUE.is("type(2)", x.type(2), 3);
        DUE.is("type(0)", x.type(0), 4);
        DUE.is("type(3)", x.type(3), 5);
        DUE.is("type(0), five are there", x.type(0), ObjectBase.BAD);
    }

    private static void typesAndFieldsEndWithTheFirstBatch() {
        ObjectBase x = new ObjectBase();
        DUE.is("type(0)", x.type(0), 1);
        DUE.yes("begin()", x.begin());
        DUE.is("type(0) in a batch", x.type(0), ObjectBase.BAD);
        DUE.is("field(1, 0, 0) in a batch", x.field(1, 0, 0), ObjectBase.BAD);
        DUE.yes("abort()", x.abort());
        DUE.is("type(0) after a batch", x.type(0), ObjectBase.BAD);
        DUE.is("field(1, 0, 0) after a batch", x.field(1, 0, 0), ObjectBase.BAD);

        ObjectBase y = new ObjectBase();
        DUE.yes("crash()", y.crash());
        DUE.no("begin() while down", y.begin());
        DUE.is("recover()", y.recover(), 0);
        DUE.is("type(0) after a begin that was refused", y.type(0), 1);
        DUE.is("field(1, 0, 0) after a begin that was refused", y.field(1, 0, 0), 0);
    }

    private static void fields() {
        ObjectBase x = new ObjectBase();
        x.type(0);
        x.type(0);
        DUE.is("field(0, 0, 0)", x.field(0, 0, 0), ObjectBase.BAD);
        DUE.is("field(3, 0, 0)", x.field(3, 0, 0), ObjectBase.BAD);
        DUE.is("field(1, -1, 1)", x.field(1, -1, 1), ObjectBase.BAD);
        DUE.is("field(1, 3, 1)", x.field(1, 3, 1), ObjectBase.BAD);
        DUE.is("field(1, 1, 0)", x.field(1, 1, 0), ObjectBase.BAD);
        DUE.is("field(1, 2, 3)", x.field(1, 2, 3), ObjectBase.BAD);
        DUE.is("field(1, 0, -7), the target does not count", x.field(1, 0, -7), 0);
        DUE.is("field(1, 1, 2)", x.field(1, 1, 2), 1);
        DUE.is("field(2, 2, 1)", x.field(2, 2, 1), 2);
        for (int f = 3; f < 8; f++) {
            DUE.is("field " + f, x.field(2, 0, 0), f);
        }
        DUE.is("field(1, 0, 0), eight are there", x.field(1, 0, 0), ObjectBase.BAD);
    }

    private static void fieldsOfParents() {
        ObjectBase x = new ObjectBase();
        x.type(0);
        x.type(1);
        x.type(2);
        x.type(0);
        x.field(1, 0, 0);
        x.field(3, 0, 0);
        x.begin();
        x.make(3);
        x.make(1);
        x.make(4);
        DUE.yes("put on a field of the parent's parent", x.put(1, 0, 4));
        DUE.yes("put on an own field", x.put(1, 1, 5));
        DUE.no("put on a field of a class that extends it", x.put(2, 1, 5));
        DUE.no("put on a field of another class", x.put(3, 0, 5));
        DUE.is("get(1, 0)", x.get(1, 0), 4);
        DUE.is("get(2, 1)", x.get(2, 1), ObjectBase.BAD);
    }

    private static void indexes() {
        ObjectBase x = new ObjectBase();
        x.type(0);
        x.field(1, 0, 0);
        DUE.is("index(0, 0, -1, -1)", x.index(0, 0, -1, -1), ObjectBase.BAD);
        DUE.is("index(2, 0, -1, -1)", x.index(2, 0, -1, -1), ObjectBase.BAD);
        DUE.is("index(1, 0, -1, -1)", x.index(1, 0, -1, -1), 0);
        DUE.is("the same again", x.index(1, 0, -1, -1), 1);
        DUE.is("a third", x.index(1, 0, -1, -1), 2);
        DUE.is("a fourth", x.index(1, 0, -1, -1), ObjectBase.BAD);
    }

    private static ObjectBase withPaths() {
        ObjectBase x = new ObjectBase();
        x.type(0);
        x.type(1);
        x.type(0);
        x.field(1, 0, 0); // a: number of A
        x.field(1, 1, 2); // b: A -> B
        x.field(2, 1, 3); // c: B -> C
        x.field(3, 0, 0); // d: number of C
        x.field(1, 2, 3); // e: set of C
        return x;
    }

    private static void indexPaths() {
        int[][] bad = {
            {1, -1, -1, -1}, {1, -1, 0, -1}, {1, 0, -1, 0}, {1, 1, -1, 3}, {1, 1, -1, -1}, {1, 4, -1, -1},
            {1, 4, 3, -1}, {1, 0, 0, -1}, {1, 2, 3, -1}, {1, 3, -1, -1}, {1, 5, -1, -1}, {1, -2, -1, -1},
            {1, 1, 3, -1}, {1, 1, 2, -1}, {1, 1, 2, 0}, {1, 1, 1, 3}, {1, 1, 4, 3}, {1, 1, 8, -1},
            {1, 1, 2, -2}, {1, 1, -2, -1}, {3, 0, -1, -1}, {1, 0, -2, -1}, {1, 1, 0, 0}, {1, 1, 2, 99},
        };
        for (int[] p : bad) {
            String call = "index(" + p[0] + ", " + p[1] + ", " + p[2] + ", " + p[3] + ")";
            DUE.is(call, withPaths().index(p[0], p[1], p[2], p[3]), ObjectBase.BAD);
        }
        int[][] good = {
            {1, 0, -1, -1}, {1, 1, 0, -1}, {1, 1, 1, 0}, {1, 1, 2, 3}, {2, 2, 3, -1}, {2, 0, -1, -1}, {3, 3, -1, -1},
        };
        for (int[] p : good) {
            String call = "index(" + p[0] + ", " + p[1] + ", " + p[2] + ", " + p[3] + ")";
            DUE.is(call, withPaths().index(p[0], p[1], p[2], p[3]), 0);
        }
    }

    private static void indexTimes() {
        ObjectBase x = new ObjectBase();
        x.type(0);
        x.field(1, 0, 0);
        x.begin();
        DUE.is("index in a batch", x.index(1, 0, -1, -1), ObjectBase.BAD);
        x.make(1);
        x.name(0, 1);
        x.commit();
        DUE.is("index after a batch", x.index(1, 0, -1, -1), 0);
    }

    private static void downComesFirst() {
        ObjectBase x = new ObjectBase();
        x.crash();
        DUE.is("type(7) while down", x.type(7), ObjectBase.DOWN);
        DUE.is("field(7, 7, 7) while down", x.field(7, 7, 7), ObjectBase.DOWN);
        DUE.is("index(7, -1, 7, 7) while down", x.index(7, -1, 7, 7), ObjectBase.DOWN);
    }
}
