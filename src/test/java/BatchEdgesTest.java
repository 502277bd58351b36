import java.util.function.Consumer;
import java.util.function.Supplier;

/** The edges of promises 5 to 12: begin, make, put, point, join, name, commit, abort. */
public final class BatchEdgesTest {
    private static final Due DUE = new Due("BatchEdgesTest");
    private static final int BAD = ObjectBase.BAD;
    private static final int ROOM = ObjectBase.ROOM;
    private static final int DOWN = ObjectBase.DOWN;

    /** Neither IDs that Bases.inBatch() knows nor 0; some are 1, 2 or 3 if only their last bits count. */
    private static final int[] UNKNOWN = {
        4, 6, 7, 62, 63, 64, 65, 66, 67, 129, 257, 65537, -1, -2, -61, -62, -63, -64, Integer.MIN_VALUE, Integer.MIN_VALUE + 1,
        Integer.MAX_VALUE,
    };
    private static final int[] NO_FIELDS = {-1, 8, 9, 16, 32, 63, 64, 65, -8, -64, Integer.MIN_VALUE, Integer.MAX_VALUE};

    public static void main(String[] args) {
        begin();
        makeRefused();
        sixtyTwoObjects();
        idsAreNotUsedAgain();
        whatIsNew();
        putRefused();
        putEdges();
        pointRefused();
        pointEdges();
        joinRefused();
        joinEdges();
        nameRefused();
        nameEdges();
        whatIsShown();
        whatIsKnown();
        blocksOfACommit();
        changesThatChangeNothing();
        mostBlocks();
        sixteenSlots();
        roomLeavesTheBatchOpen();
        slotsOfWhatIsNotReached();
        commitRefused();
        abortEdges();
        DUE.end();
    }

    private static ObjectBase down() {
        return Bases.crashed(Bases.inBatch());
    }

    private static void begin() {
        DUE.sentence("Begins a batch. False if the base is down or one is open.");
        DUE.yes("begin() of a new one", new ObjectBase().begin());
        DUE.yes("begin()", Bases.small().begin());
        Twins.refused(DUE, "begin() in a batch", Bases::inBatch, x -> x.begin());
        Twins.refused(DUE, "begin() in an empty batch", () -> Bases.begun(new ObjectBase()), x -> x.begin());
        Twins.refused(DUE, "begin() while down", BatchEdgesTest::down, x -> x.begin());
        Twins.refused(DUE, "begin() while down, no batch before", () -> Bases.crashed(Bases.schema()), x -> x.begin());
        Twins.refused(DUE, "begin() with a mark in the log", () -> Bases.cutCommit(4), x -> x.begin());
        ObjectBase x = Bases.inBatch();
        x.abort();
        DUE.yes("begin() behind an abort", x.begin());
        x.commit();
        DUE.yes("begin() behind a commit", x.begin());
        x.crash();
        x.recover();
        DUE.yes("begin() behind a crash", x.begin());
    }

    private static void makeRefused() {
        DUE.sentence("BAD: no batch is open, there is no class c, or 62 were made.");
        Twins.refused(DUE, "make(1) without a batch", Bases::small, x -> x.make(1), BAD);
        Twins.refused(DUE, "make(1) before any batch", Bases::schema, x -> x.make(1), BAD);
        int[] classes = {0, 4, 5, 6, -1, -2, 32, 33, 64, 65, Integer.MIN_VALUE, Integer.MAX_VALUE};
        for (int c : classes) {
            Twins.refused(DUE, "make(" + c + ")", Bases::inBatch, x -> x.make(c), BAD);
            Twins.refused(DUE, "make(" + c + ") while down", BatchEdgesTest::down, x -> x.make(c), DOWN);
        }
        for (int c = 1; c <= 3; c++) {
            ObjectBase x = Bases.inBatch();
            DUE.is("make(" + c + ")", x.make(c), 6);
            DUE.is("its class", x.classOf(6), c);
        }
        DUE.is("make of the fifth class", Bases.begun(Bases.withClasses(5)).make(5), 1);
        DUE.is("make of a sixth", Bases.begun(Bases.withClasses(5)).make(6), BAD);
        Twins.refused(DUE, "make(1) while down", BatchEdgesTest::down, x -> x.make(1), DOWN);
    }

    /** So many IDs were given in a batch that is open still. */
    private static ObjectBase withIds(int count) {
        ObjectBase x = Bases.begun(Bases.schema());
        Bases.makeMany(x, count);
        return x;
    }

    private static ObjectBase withIdsOfBefore(int count) {
        ObjectBase x = withIds(count);
        x.abort();
        x.begin();
        return x;
    }

    private static void sixtyTwoObjects() {
        DUE.sentence("OBJECTS have IDs 1, 2, .., in the order in which they are made, at most 62");
        ObjectBase x = Bases.begun(Bases.schema());
        for (int id = 1; id <= 62; id++) {
            DUE.is("make " + id, x.make(1 + id % 3), id);
            DUE.is("its class", x.classOf(id), 1 + id % 3);
        }
        DUE.is("a 63rd", x.make(1), BAD);
        DUE.is("classOf(63)", x.classOf(63), 0);
        DUE.yes("name(0, 62)", x.name(0, 62));
        DUE.yes("put(62, 5, 7)", x.put(62, 5, 7));
        DUE.yes("join(62, 6, 61, true)", x.join(62, 6, 61, true));
        DUE.yes("reached(62)", x.reached(62));
        DUE.no("reached(1)", x.reached(1));

        DUE.sentence("there is no class c, or 62 were made");
        DUE.is("a 62nd", withIds(61).make(3), 62);
        DUE.is("a 62nd of another batch", withIdsOfBefore(61).make(3), 62);
        Twins.refused(DUE, "a 63rd", () -> withIds(62), y -> y.make(1), BAD);
        Twins.refused(DUE, "a 63rd of another batch", () -> withIdsOfBefore(62), y -> y.make(1), BAD);
        ObjectBase last = withIdsOfBefore(61);
        last.make(1);
        last.put(62, 0, 4);
        last.point(62, 1, 62);
        last.join(62, 2, 62, true);
        last.name(3, 62);
        DUE.is("commit() of the last ID", last.commit(), 2);
        DUE.is("look(0)", last.look(0), 1);
        DUE.is("look(1)", last.look(1), 1);
        DUE.is("look(2)", last.look(2), 62);
        DUE.is("get(62, 1)", last.get(62, 1), 62);
        DUE.is("get(62, 2)", last.get(62, 2), 1);
        DUE.yes("holds(62, 2, 62)", last.holds(62, 2, 62));
        DUE.is("*A?Eyx.c:y=x.b", last.ask(Texts.prepare(last, "*A?Eyx.c:y=x.b")), 1);
        DUE.is("hit(0)", last.hit(0), 62);
        DUE.is("collect()", last.collect(), 0);
        DUE.is("classOf(62)", last.classOf(62), 1);
    }

    private static void idsAreNotUsedAgain() {
        DUE.sentence("(IDs of a batch that does not hold are not used again, and count. Room is looked at in commit().)");
        ObjectBase x = withIdsOfBefore(3);
        DUE.is("make behind an abort", x.make(1), 4);
        x.crash();
        x.recover();
        x.begin();
        DUE.is("make behind a crash", x.make(1), 5);
        x.arm(1);
        DUE.is("commit()", x.commit(), DOWN);
        DUE.is("recover()", x.recover(), 0);
        x.begin();
        DUE.is("make behind a commit that was cut in the log", x.make(1), 6);
        x.arm(2);
        DUE.is("commit()", x.commit(), DOWN);
        DUE.is("recover()", x.recover(), 1);
        x.begin();
        DUE.is("make behind a commit that was cut behind the mark", x.make(1), 7);
        x.commit();
        DUE.is("collect()", x.collect(), 2);
        x.begin();
        DUE.is("make behind a collection", x.make(1), 8);
        DUE.is("look(2)", x.look(2), 8);
        ObjectBase y = Bases.begun(Bases.withObjects(16, 16));
        for (int id = 17; id <= 62; id++) {
            DUE.is("make without room, " + id, y.make(1), id);
        }
        DUE.is("commit()", y.commit(), ROOM);
        y.abort();
        DUE.is("they count", Bases.begun(y).make(1), BAD);
    }

    private static void whatIsNew() {
        DUE.sentence("one that is new has 0, no reference and empty sets");
        ObjectBase x = Bases.small();
        x.begin();
        x.make(1);
        x.put(5, 0, 77);
        x.point(5, 1, 1);
        x.join(5, 2, 1, true);
        x.abort();
        x.begin();
        for (int c = 1; c <= 3; c++) {
            int id = x.make(c);
            for (int f = 0; f < 8; f++) {
                boolean has = c == 3 ? f >= 5 : f < (c == 1 ? 3 : 5);
                DUE.is("get(" + id + ", " + f + ")", x.get(id, f), has ? 0 : BAD);
            }
            for (int target = 1; target <= 8; target++) {
                DUE.no("holds(" + id + ", 2, " + target + ")", x.holds(id, 2, target));
            }
            DUE.no("reached(" + id + ")", x.reached(id));
        }
    }

    private static void putRefused() {
        DUE.sentence("False if the base is down, no batch is open, the object is not known to it, or field f is none of its class or no number.");
        Twins.refused(DUE, "put while down", BatchEdgesTest::down, x -> x.put(1, 0, 7));
        Twins.refused(DUE, "put without a batch", Bases::small, x -> x.put(1, 0, 7));
        Twins.refused(DUE, "put(0, 0, 7)", Bases::inBatch, x -> x.put(0, 0, 7));
        for (int id : UNKNOWN) {
            Twins.refused(DUE, "put(" + id + ", 0, 7)", Bases::inBatch, x -> x.put(id, 0, 7));
        }
        for (int f : NO_FIELDS) {
            Twins.refused(DUE, "put(1, " + f + ", 7)", Bases::inBatch, x -> x.put(1, f, 7));
        }
        for (int f = 1; f < 8; f++) {
            int no = f;
            Twins.refused(DUE, "put(1, " + no + ", 7)", Bases::inBatch, x -> x.put(1, no, 7));
            Twins.refused(DUE, "put(5, " + no + ", 7)", Bases::inBatch, x -> x.put(5, no, 7));
            if (f != 3) {
                Twins.refused(DUE, "put(2, " + no + ", 7)", Bases::inBatch, x -> x.put(2, no, 7));
            }
            if (f != 5) {
                Twins.refused(DUE, "put(3, " + no + ", 7)", Bases::inBatch, x -> x.put(3, no, 7));
            }
        }
        Twins.refused(DUE, "put(3, 0, 7)", Bases::inBatch, x -> x.put(3, 0, 7));
        ObjectBase x = Bases.withClasses(1);
        x.field(1, 0, 0);
        x.begin();
        x.make(1);
        DUE.yes("the last field that is there", x.put(1, 0, 7));
        DUE.no("the first that is not", x.put(1, 1, 7));
    }

    private static void putEdges() {
        DUE.sentence("The number of a field becomes v.");
        int[] numbers = {0, 1, -1, -3, -4, Integer.MAX_VALUE, Integer.MIN_VALUE, Integer.MIN_VALUE + 1};
        for (int v : numbers) {
            ObjectBase x = Bases.inBatch();
            DUE.yes("put(2, 3, " + v + ")", x.put(2, 3, v));
            DUE.is("get(2, 3)", x.get(2, 3), v);
            DUE.is("get(2, 0), another field", x.get(2, 0), 0);
            DUE.is("get(1, 0), another object", x.get(1, 0), 6);
            DUE.is("commit()", x.commit(), 4);
            DUE.is("get(2, 3) behind it", x.get(2, 3), v);
        }
    }

    private static void pointRefused() {
        DUE.sentence("False as with put() (no reference), or if target is neither 0 nor known to the batch, or no object of the field's class.");
        Twins.refused(DUE, "point while down", BatchEdgesTest::down, x -> x.point(1, 1, 1));
        Twins.refused(DUE, "point without a batch", Bases::small, x -> x.point(1, 1, 1));
        Twins.refused(DUE, "point to none without a batch", Bases::small, x -> x.point(1, 1, 0));
        Twins.refused(DUE, "point(0, 1, 1)", Bases::inBatch, x -> x.point(0, 1, 1));
        for (int id : UNKNOWN) {
            Twins.refused(DUE, "point(" + id + ", 1, 1)", Bases::inBatch, x -> x.point(id, 1, 1));
            Twins.refused(DUE, "point(" + id + ", 1, 0)", Bases::inBatch, x -> x.point(id, 1, 0));
            Twins.refused(DUE, "point(1, 1, " + id + ")", Bases::inBatch, x -> x.point(1, 1, id));
            Twins.refused(DUE, "point(2, 4, " + id + ")", Bases::inBatch, x -> x.point(2, 4, id));
        }
        for (int f : NO_FIELDS) {
            Twins.refused(DUE, "point(1, " + f + ", 1)", Bases::inBatch, x -> x.point(1, f, 1));
            Twins.refused(DUE, "point(1, " + f + ", 0)", Bases::inBatch, x -> x.point(1, f, 0));
        }
        int[][] wrong = {
            {1, 0, 1}, {1, 2, 1}, {1, 4, 3}, {1, 7, 1}, {3, 1, 1}, {3, 4, 3}, {3, 5, 1}, {3, 6, 2}, {2, 7, 1},
            {1, 0, 0}, {1, 2, 0}, {1, 4, 0}, {3, 6, 0}, {1, 1, 3}, {2, 1, 3}, {2, 4, 1}, {2, 4, 2}, {3, 7, 3}, {2, 4, 5},
        };
        for (int[] p : wrong) {
            String call = "point(" + p[0] + ", " + p[1] + ", " + p[2] + ")";
            Twins.refused(DUE, call, Bases::inBatch, x -> x.point(p[0], p[1], p[2]));
        }
    }

    private static void pointEdges() {
        DUE.sentence("The reference becomes one to an object (0: to none).");
        int[][] right = {{1, 1, 1}, {1, 1, 2}, {1, 1, 5}, {1, 1, 0}, {2, 1, 2}, {2, 1, 1}, {2, 4, 3}, {2, 4, 0}, {3, 7, 2}, {5, 1, 5}, {5, 1, 0}};
        for (int[] p : right) {
            ObjectBase x = Bases.inBatch();
            String call = "point(" + p[0] + ", " + p[1] + ", " + p[2] + ")";
            DUE.yes(call, x.point(p[0], p[1], p[2]));
            DUE.is("get behind " + call, x.get(p[0], p[1]), p[2]);
            x.commit();
            DUE.is("get behind commit() of " + call, x.get(p[0], p[1]), p[2]);
        }
        ObjectBase x = Bases.inBatch();
        x.make(2);
        DUE.no("a class above the field's", x.join(3, 6, 1, true));
        DUE.yes("the field's class", x.join(3, 6, 6, true));
    }

    private static void joinRefused() {
        DUE.sentence("False as with point(), for a set; target 0 is refused.");
        boolean[] ways = {true, false};
        for (boolean in : ways) {
            String end = ", " + in + ")";
            Twins.refused(DUE, "join while down" + end, BatchEdgesTest::down, x -> x.join(1, 2, 1, in));
            Twins.refused(DUE, "join without a batch" + end, Bases::small, x -> x.join(1, 2, 1, in));
            Twins.refused(DUE, "join(1, 2, 0" + end, Bases::inBatch, x -> x.join(1, 2, 0, in));
            Twins.refused(DUE, "join(3, 6, 0" + end, Bases::inBatch, x -> x.join(3, 6, 0, in));
            Twins.refused(DUE, "join(0, 2, 1" + end, Bases::inBatch, x -> x.join(0, 2, 1, in));
            for (int id : UNKNOWN) {
                Twins.refused(DUE, "join(" + id + ", 2, 1" + end, Bases::inBatch, x -> x.join(id, 2, 1, in));
                Twins.refused(DUE, "join(1, 2, " + id + end, Bases::inBatch, x -> x.join(1, 2, id, in));
            }
            for (int f : NO_FIELDS) {
                Twins.refused(DUE, "join(1, " + f + ", 1" + end, Bases::inBatch, x -> x.join(1, f, 1, in));
            }
            int[][] wrong = {
                {1, 0, 1}, {1, 1, 2}, {1, 3, 1}, {1, 4, 3}, {1, 6, 2}, {2, 6, 2}, {3, 2, 1}, {3, 5, 2}, {3, 7, 1},
                {1, 2, 3}, {2, 2, 3}, {3, 6, 1}, {3, 6, 3}, {3, 6, 5},
            };
            for (int[] p : wrong) {
                String call = "join(" + p[0] + ", " + p[1] + ", " + p[2] + end;
                Twins.refused(DUE, call, Bases::inBatch, x -> x.join(p[0], p[1], p[2], in));
            }
        }
    }

    private static void joinEdges() {
        DUE.sentence("An object comes into the set (in) or goes out of it.");
        ObjectBase x = Bases.begun(Bases.schema());
        Bases.makeMany(x, 62);
        for (int target = 1; target <= 62; target++) {
            DUE.yes("join(62, 2, " + target + ", true)", x.join(62, 2, target, true));
            DUE.is("get(62, 2)", x.get(62, 2), target);
        }
        DUE.yes("holds(62, 2, 1)", x.holds(62, 2, 1));
        DUE.yes("holds(62, 2, 62)", x.holds(62, 2, 62));
        for (int target = 62; target >= 1; target--) {
            DUE.yes("join(62, 2, " + target + ", false)", x.join(62, 2, target, false));
            DUE.is("get(62, 2)", x.get(62, 2), target - 1);
            DUE.no("holds(62, 2, " + target + ")", x.holds(62, 2, target));
        }
        ObjectBase y = Bases.inBatch();
        DUE.yes("into a set that has it", y.join(1, 2, 2, true));
        DUE.is("get(1, 2)", y.get(1, 2), 2);
        DUE.yes("out of a set that hasn't it", y.join(1, 2, 5, false));
        DUE.is("get(1, 2)", y.get(1, 2), 2);
        DUE.yes("itself out of its set", y.join(1, 2, 1, false));
        DUE.is("get(1, 2)", y.get(1, 2), 1);
        DUE.yes("holds(1, 2, 2)", y.holds(1, 2, 2));
        DUE.no("holds(1, 2, 1)", y.holds(1, 2, 1));
        DUE.is("another set", y.get(3, 6), 1);
    }

    private static void nameRefused() {
        DUE.sentence("False if the base is down, no batch is open, n is not 0 .. 3, or id is neither 0 nor known to the batch.");
        Twins.refused(DUE, "name while down", BatchEdgesTest::down, x -> x.name(0, 1));
        Twins.refused(DUE, "name without a batch", Bases::small, x -> x.name(0, 1));
        Twins.refused(DUE, "name none without a batch", Bases::small, x -> x.name(0, 0));
        int[] names = {-1, 4, 5, -4, 32, 64, Integer.MIN_VALUE, Integer.MAX_VALUE};
        for (int n : names) {
            Twins.refused(DUE, "name(" + n + ", 1)", Bases::inBatch, x -> x.name(n, 1));
            Twins.refused(DUE, "name(" + n + ", 0)", Bases::inBatch, x -> x.name(n, 0));
        }
        for (int id : UNKNOWN) {
            Twins.refused(DUE, "name(0, " + id + ")", Bases::inBatch, x -> x.name(0, id));
            Twins.refused(DUE, "name(3, " + id + ")", Bases::inBatch, x -> x.name(3, id));
        }
    }

    private static void nameEdges() {
        DUE.sentence("A name names an object (0: none).");
        int[] ids = {0, 1, 2, 3, 5};
        for (int n = 0; n <= 3; n++) {
            for (int id : ids) {
                ObjectBase x = Bases.inBatch();
                DUE.yes("name(" + n + ", " + id + ")", x.name(n, id));
                DUE.is("named(" + n + ")", x.named(n), id);
                x.commit();
                DUE.is("named(" + n + ") behind a commit", x.named(n), id);
            }
        }
        ObjectBase x = Bases.inBatch();
        for (int n = 0; n <= 3; n++) {
            DUE.yes("all name one, name(" + n + ", 5)", x.name(n, 5));
        }
        x.commit();
        DUE.is("look(1)", x.look(1), 1);
    }

    private static void whatIsShown() {
        DUE.sentence("what is shown of objects and names is that then");
        ObjectBase x = Bases.inBatch();
        DUE.is("get(1, 0)", x.get(1, 0), 6);
        DUE.is("get(5, 0)", x.get(5, 0), 8);
        DUE.is("classOf(5)", x.classOf(5), 1);
        DUE.is("named(3)", x.named(3), 5);
        DUE.is("named(2)", x.named(2), 0);
        DUE.yes("reached(5)", x.reached(5));
        DUE.is("what is not reached is shown too", x.get(4, 0), 9);
        x.abort();
        DUE.is("get(1, 0) behind an abort", x.get(1, 0), 5);
        DUE.is("get(5, 0) behind an abort", x.get(5, 0), BAD);
        DUE.is("classOf(5) behind an abort", x.classOf(5), 0);
        DUE.is("named(3) behind an abort", x.named(3), 0);
        DUE.is("named(2) behind an abort", x.named(2), 3);
        DUE.no("reached(5) behind an abort", x.reached(5));
    }

    private static void whatIsKnown() {
        DUE.sentence("An object is KNOWN to the batch (till it is over) if it was reached when the batch began or is made in it; other IDs are refused.");
        ObjectBase x = Bases.inBatch();
        x.name(0, 0);
        x.name(1, 0);
        x.name(3, 0);
        for (int id = 1; id <= 5; id++) {
            DUE.no("reached(" + id + ")", x.reached(id));
        }
        DUE.yes("put on what was reached", x.put(1, 0, 1));
        DUE.yes("put on what was reached by a reference", x.put(2, 3, 1));
        DUE.yes("put on what was made", x.put(5, 0, 1));
        DUE.no("put on what was not reached", x.put(4, 0, 1));
        DUE.yes("point to what was reached", x.point(5, 1, 1));
        DUE.no("point to what was not", x.point(5, 1, 4));
        DUE.yes("name what was made", x.name(0, 5));
        DUE.yes("and by that", x.reached(1));
        DUE.is("commit()", x.commit(), 4);
        x.begin();
        DUE.yes("known to the next: 1", x.put(1, 0, 1));
        DUE.yes("known to the next: 5", x.put(5, 0, 1));
        DUE.no("never", x.put(4, 0, 1));
        x.name(0, 0);
        x.commit();
        x.begin();
        for (int id = 1; id <= 5; id++) {
            DUE.no("not reached when it began: put(" + id + ", 0, 2)", x.put(id, 0, 2));
            DUE.no("not reached when it began: put(" + id + ", 5, 2)", x.put(id, 5, 2));
            DUE.no("not reached when it began: name(0, " + id + ")", x.name(0, id));
        }
        DUE.is("commit()", x.commit(), 0);
        ObjectBase y = Bases.inBatch();
        y.abort();
        y.begin();
        DUE.no("made in another batch that does not hold", y.put(5, 0, 1));
        DUE.no("nor can it be named", y.name(0, 5));
        y.abort();
        y.collect();
        y.begin();
        DUE.no("gone", y.put(4, 0, 1));
        DUE.is("of the next ID", y.make(1), 6);
        DUE.yes("put(6, 0, 1)", y.put(6, 0, 1));
    }

    /** Tells of a batch with these changes that its commit() answers w and writes 2 w + 2 blocks. */
    private static void blocks(String changes, int w, Consumer<ObjectBase> told) {
        ObjectBase x = Bases.begun(Bases.small());
        told.accept(x);
        int before = x.look(4);
        DUE.is("commit() of " + changes, x.commit(), w);
        DUE.is("blocks of " + changes, x.look(4) - before, 2 * w + 2);
        DUE.is("open behind " + changes, x.look(7), 0);
    }

    private static void blocksOfACommit() {
        DUE.sentence("one for each object that was made or to which a change was made, by ID, and one more if a change was made to a name");
        blocks("an object", 1, x -> x.make(1));
        blocks("three objects", 3, x -> Bases.makeMany(x, 3));
        blocks("an object and its number", 1, x -> x.put(x.make(1), 0, 3));
        blocks("an object and its name", 2, x -> x.name(3, x.make(1)));
        blocks("a number", 1, x -> x.put(1, 0, 7));
        blocks("a reference", 1, x -> x.point(2, 4, 0));
        blocks("a set", 1, x -> x.join(3, 6, 2, false));
        blocks("two numbers of one", 1, x -> {
            x.put(2, 0, 1);
            x.put(2, 3, 2);
        });
        blocks("all of one", 1, x -> {
            x.put(1, 0, 1);
            x.point(1, 1, 1);
            x.join(1, 2, 2, false);
        });
        blocks("all that is known", 3, x -> {
            x.put(1, 0, 1);
            x.put(2, 0, 1);
            x.put(3, 5, 1);
        });
        blocks("the target is not changed", 1, x -> x.point(1, 1, 1));
        blocks("one name", 1, x -> x.name(0, 0));
        blocks("four names", 1, x -> {
            for (int n = 0; n < 4; n++) {
                x.name(n, 0);
            }
        });
        blocks("one that is reached no more", 2, x -> {
            x.put(1, 0, 7);
            x.name(0, 0);
        });
        DUE.sentence("perhaps none: the others below are written all the same");
        blocks("nothing", 0, x -> { });
        DUE.sentence("(these two are written, too, if w is 0)");
        blocks("what was refused", 0, x -> {
            x.put(4, 0, 1);
            x.put(1, 1, 1);
            x.point(1, 1, 3);
            x.join(1, 2, 0, true);
            x.join(1, 2, 3, false);
            x.name(4, 1);
            x.name(0, 4);
            x.make(4);
        });
    }

    private static void changesThatChangeNothing() {
        DUE.sentence("(A change that changes nothing is one too: a name that it has, an object into a set or out of one that had or hadn't it.)");
        blocks("a name that it has", 1, x -> x.name(0, 1));
        blocks("a name for none that has none", 1, x -> x.name(3, 0));
        blocks("into a set that had it", 1, x -> x.join(1, 2, 2, true));
        blocks("out of a set that hadn't it", 1, x -> x.join(2, 2, 1, false));
        blocks("a number that it has", 1, x -> x.put(1, 0, 5));
        blocks("a number that is 0", 1, x -> x.put(2, 0, 0));
        blocks("a reference that it has", 1, x -> x.point(1, 1, 2));
        blocks("no reference where none is", 1, x -> x.point(2, 1, 0));
        blocks("in and out again", 1, x -> {
            x.join(2, 2, 1, true);
            x.join(2, 2, 1, false);
        });
        blocks("a name and back", 1, x -> {
            x.name(0, 0);
            x.name(0, 1);
        });
    }

    private static void mostBlocks() {
        DUE.sentence("Otherwise w blocks (one for each object that was made or to which a change was made");
        for (int count = 0; count <= 16; count++) {
            ObjectBase x = Bases.begun(Bases.schema());
            Bases.makeMany(x, count);
            x.name(0, 0);
            DUE.is("commit() of " + count + " and a name", x.commit(), count + 1);
            DUE.is("blocks", x.look(4), 2 * count + 4);
            ObjectBase y = Bases.begun(Bases.withObjects(16, 16));
            int before = y.look(4);
            for (int id = 1; id <= count; id++) {
                y.put(id, 0, id);
            }
            DUE.is("commit() of " + count + " changed", y.commit(), count);
            DUE.is("blocks", y.look(4) - before, 2 * count + 2);
        }
    }

    private static void sixteenSlots() {
        DUE.sentence("The disk has two HALVES of 16 SLOTS.");
        for (int taken = 0; taken <= 16; taken++) {
            String with = " with " + taken + " taken";
            ObjectBase x = Bases.begun(Bases.withObjects(taken, taken));
            Bases.makeMany(x, 16 - taken);
            DUE.is("commit() of all that have room" + with, x.commit(), 16 - taken);
            DUE.is("look(0)" + with, x.look(0), 16);
            DUE.is("classOf(16)" + with, x.classOf(16), 1);
            int count = taken;
            Supplier<ObjectBase> full = () -> {
                ObjectBase y = Bases.begun(Bases.withObjects(count, count));
                Bases.makeMany(y, 17 - count);
                return y;
            };
            Twins.refused(DUE, "commit() of one more" + with, full, y -> y.commit(), ROOM);
            ObjectBase z = full.get();
            int before = z.look(4);
            z.arm(0);
            DUE.is("commit() of one more, armed" + with, z.commit(), ROOM);
            DUE.is("blocks of one more" + with, z.look(4), before);
            DUE.is("not down" + with, z.look(6), 0);
            DUE.is("look(0) of one more" + with, z.look(0), taken);
        }
        ObjectBase x = Bases.begun(Bases.schema());
        Bases.makeMany(x, 62);
        DUE.is("commit() of all IDs", x.commit(), ROOM);
    }

    private static void roomLeavesTheBatchOpen() {
        DUE.sentence("if the new objects would not have room: ROOM, and the batch stays open");
        ObjectBase x = Bases.begun(Bases.withObjects(15, 2));
        x.put(1, 0, 4);
        Bases.makeMany(x, 2);
        x.name(3, 17);
        DUE.is("commit()", x.commit(), ROOM);
        DUE.is("look(7)", x.look(7), 1);
        DUE.is("get(1, 0)", x.get(1, 0), 4);
        DUE.is("classOf(17)", x.classOf(17), 1);
        DUE.is("named(3)", x.named(3), 17);
        DUE.no("begin()", x.begin());
        DUE.is("collect()", x.collect(), BAD);
        DUE.yes("put(17, 0, 5)", x.put(17, 0, 5));
        DUE.no("put(3, 0, 5), never known", x.put(3, 0, 5));
        DUE.is("make(1)", x.make(1), 18);
        DUE.is("commit()", x.commit(), ROOM);
        DUE.yes("abort()", x.abort());
        DUE.is("get(1, 0)", x.get(1, 0), 0);
        DUE.is("named(3)", x.named(3), 0);
        DUE.is("collect()", x.collect(), 13);
        x.begin();
        Bases.makeMany(x, 14);
        DUE.is("commit() behind a collection", x.commit(), 14);
    }

    private static void slotsOfWhatIsNotReached() {
        DUE.sentence("What is not reached keeps its slot until it is collected (and is told of till then).");
        ObjectBase x = Bases.begun(Bases.schema());
        Bases.makeMany(x, 16);
        DUE.is("commit() of what nothing reaches", x.commit(), 16);
        DUE.is("look(0)", x.look(0), 16);
        DUE.is("look(1)", x.look(1), 0);
        for (int id = 1; id <= 16; id++) {
            DUE.is("classOf(" + id + ")", x.classOf(id), 1);
            DUE.is("get(" + id + ", 0)", x.get(id, 0), 0);
        }
        x.begin();
        x.make(1);
        DUE.is("commit() of one more", x.commit(), ROOM);
        x.abort();
        DUE.is("collect()", x.collect(), 16);
        x.begin();
        Bases.makeMany(x, 16);
        DUE.is("commit() of 16 more", x.commit(), 16);

        DUE.sentence("a new one takes the next slot");
        ObjectBase y = Bases.schema();
        for (int slot = 1; slot <= 16; slot++) {
            y.begin();
            y.make(1);
            y.abort();
            y.begin();
            y.make(1);
            DUE.is("look(0) in the batch", y.look(0), slot - 1);
            DUE.is("commit()", y.commit(), 1);
            DUE.is("look(0)", y.look(0), slot);
        }
        y.begin();
        y.make(1);
        DUE.is("commit() of one more", y.commit(), ROOM);
    }

    private static void commitRefused() {
        DUE.sentence("Commits: w. DOWN, also if it goes down; BAD: no batch is open; ROOM.");
        Twins.refused(DUE, "commit() of a new one", ObjectBase::new, x -> x.commit(), BAD);
        Twins.refused(DUE, "commit() without a batch", Bases::small, x -> x.commit(), BAD);
        Twins.refused(DUE, "commit() without a batch, full", () -> Bases.withObjects(16, 3), x -> x.commit(), BAD);
        Twins.refused(DUE, "commit() while down", BatchEdgesTest::down, x -> x.commit(), DOWN);
        Twins.refused(DUE, "commit() with a mark in the log", () -> Bases.cutCommit(5), x -> x.commit(), DOWN);
        ObjectBase x = Bases.inBatch();
        x.arm(0);
        DUE.is("commit() that goes down", x.commit(), DOWN);
        DUE.sentence("The batch is over then.");
        ObjectBase y = Bases.inBatch();
        DUE.is("commit()", y.commit(), 3);
        DUE.is("commit() again", y.commit(), BAD);
        DUE.is("look(7)", y.look(7), 0);
        DUE.no("put behind it", y.put(1, 0, 1));
        DUE.no("abort() behind it", y.abort());
        DUE.is("get(1, 0)", y.get(1, 0), 6);
    }

    private static void abortEdges() {
        DUE.sentence("The batch does not hold; false if the base is down or none is open.");
        Twins.refused(DUE, "abort() of a new one", ObjectBase::new, x -> x.abort());
        Twins.refused(DUE, "abort() without a batch", Bases::small, x -> x.abort());
        Twins.refused(DUE, "abort() while down", BatchEdgesTest::down, x -> x.abort());
        Twins.refused(DUE, "abort() with a mark in the log", () -> Bases.cutCommit(4), x -> x.abort());
        ObjectBase x = Bases.inBatch();
        int before = x.look(4);
        x.arm(0);
        DUE.yes("abort() writes nothing", x.abort());
        DUE.is("look(4)", x.look(4), before);
        DUE.is("look(6)", x.look(6), 0);
        DUE.is("look(7)", x.look(7), 0);
        DUE.no("abort() again", x.abort());
        DUE.yes("abort() of an empty batch", Bases.begun(x).abort());
    }
}
