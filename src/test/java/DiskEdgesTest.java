/** The edges of promises 13 to 16, collect, arm, crash and recover, and of what the terms tell of the disk. */
public final class DiskEdgesTest {
    private static final Due DUE = new Due("DiskEdgesTest");
    private static final int BAD = ObjectBase.BAD;
    private static final int ROOM = ObjectBase.ROOM;
    private static final int DOWN = ObjectBase.DOWN;

    public static void main(String[] args) {
        collectNothing();
        collectSome();
        roomBehindACollection();
        collectRefused();
        cutCollections();
        cutCollectionsDoNotCount();
        armEdges();
        armedWithAThousand();
        armedAnew();
        whatWritesNothing();
        crashEdges();
        recoverRefused();
        cutCommits();
        cutBatchOfNothing();
        largestBatchCut();
        newObjectsOfACutBatch();
        emptyLog();
        recoverIsNotArmed();
        whatStays();
        DUE.end();
    }

    private static void collectNothing() {
        DUE.sentence("then one block (also if none is reached), with which the other half is the one in use");
        ObjectBase x = new ObjectBase();
        for (int i = 1; i <= 4; i++) {
            DUE.is("collect() of a new one", x.collect(), 0);
            DUE.is("look(4)", x.look(4), i);
            DUE.is("look(3)", x.look(3), i % 2);
        }
        ObjectBase y = Bases.withObjects(16, 0);
        int before = y.look(4);
        DUE.is("collect() of what is not reached", y.collect(), 16);
        DUE.is("look(4)", y.look(4), before + 1);
        DUE.is("look(0)", y.look(0), 0);
        DUE.is("collect() again", y.collect(), 0);
        DUE.is("look(3)", y.look(3), 0);
    }

    private static void collectSome() {
        DUE.sentence("COLLECT: a block is written for each object that is reached, by ID, to the other half, in its next slot, from the first on");
        for (int reached = 0; reached <= 16; reached++) {
            ObjectBase x = Bases.withObjects(16, reached);
            int before = x.look(4);
            String with = " with " + reached + " reached";
            DUE.is("collect()" + with, x.collect(), 16 - reached);
            DUE.is("blocks" + with, x.look(4) - before, reached + 1);
            DUE.is("look(0)" + with, x.look(0), reached);
            DUE.is("look(1)" + with, x.look(1), reached);
            DUE.is("look(2)" + with, x.look(2), 16);
            DUE.is("look(3)" + with, x.look(3), 1);
            for (int id = 1; id <= 16; id++) {
                DUE.is("classOf(" + id + ")" + with, x.classOf(id), id <= reached ? 1 : 0);
                DUE.is("get(" + id + ", 0)" + with, x.get(id, 0), id <= reached ? 0 : BAD);
            }
        }
        DUE.sentence("What was not reached is gone.");
        ObjectBase x = Bases.small();
        DUE.is("get(4, 0)", x.get(4, 0), 9);
        DUE.is("collect()", x.collect(), 1);
        DUE.is("get(4, 0)", x.get(4, 0), BAD);
        DUE.is("classOf(4)", x.classOf(4), 0);
        DUE.is("get(1, 0)", x.get(1, 0), 5);
        DUE.is("get(2, 4)", x.get(2, 4), 3);
        DUE.is("get(3, 6)", x.get(3, 6), 1);
        DUE.is("named(2)", x.named(2), 3);
        DUE.is("collect() again", x.collect(), 0);
        ObjectBase last = Bases.begun(Bases.schema());
        Bases.makeMany(last, 60);
        last.abort();
        last.begin();
        Bases.makeMany(last, 2);
        last.name(0, 61);
        last.commit();
        DUE.is("classOf(62)", last.classOf(62), 1);
        DUE.is("collect() of the last ID", last.collect(), 1);
        DUE.is("classOf(62)", last.classOf(62), 0);
        DUE.is("look(0)", last.look(0), 1);
        Bases.begun(last).name(0, 0);
        last.commit();
        DUE.is("collect() of the last but one", last.collect(), 1);
        DUE.is("classOf(61)", last.classOf(61), 0);
    }

    private static void roomBehindACollection() {
        DUE.sentence("Each object lies in a slot of the half in use; a new one takes the next slot.");
        for (int reached = 0; reached <= 16; reached++) {
            ObjectBase x = Bases.withObjects(16, reached);
            x.collect();
            x.begin();
            Bases.makeMany(x, 17 - reached);
            DUE.is("commit() of one too many with " + reached + " reached", x.commit(), ROOM);
            x.abort();
            x.begin();
            Bases.makeMany(x, 16 - reached);
            DUE.is("commit() with " + reached + " reached", x.commit(), 16 - reached);
            DUE.is("look(0) with " + reached + " reached", x.look(0), 16);
        }
    }

    private static void collectRefused() {
        DUE.sentence("DOWN, also if it goes down; BAD: a batch is open.");
        Twins.refused(DUE, "collect() in a batch", Bases::inBatch, x -> x.collect(), BAD);
        Twins.refused(DUE, "collect() in an empty batch", () -> Bases.begun(new ObjectBase()), x -> x.collect(), BAD);
        Twins.refused(DUE, "collect() in a batch, armed with 0", () -> {
            ObjectBase x = Bases.inBatch();
            x.arm(0);
            return x;
        }, x -> x.collect(), BAD);
        Twins.refused(DUE, "collect() while down", () -> Bases.crashed(Bases.inBatch()), x -> x.collect(), DOWN);
        Twins.refused(DUE, "collect() while down by a collection", () -> Bases.cutCollection(2), x -> x.collect(), DOWN);
    }

    private static void cutCollections() {
        DUE.sentence("it is one less with each block written (with n, n blocks are); when a block is to be written and the number is 0, it is not written, and the base is DOWN");
        for (int reached = 0; reached <= 16; reached++) {
            for (int n = 0; n <= reached + 2; n++) {
                String with = " of " + reached + ", armed with " + n;
                ObjectBase x = Bases.withObjects(16, reached);
                int before = x.look(4);
                x.arm(n);
                boolean whole = n > reached;
                DUE.is("collect()" + with, x.collect(), whole ? 16 - reached : DOWN);
                DUE.is("blocks" + with, x.look(4) - before, Math.min(n, reached + 1));
                DUE.is("look(5)" + with, x.look(5), whole ? n - reached - 1 : 0);
                DUE.is("look(6)" + with, x.look(6), whole ? 0 : 1);
            }
        }
    }

    private static void cutCollectionsDoNotCount() {
        DUE.sentence("A collection that was cut has not been; blocks of it in the other half do not count.");
        for (int n = 0; n <= 3; n++) {
            String with = " armed with " + n;
            ObjectBase x = Bases.cutCollection(n);
            int before = x.look(4);
            DUE.is("look(6)" + with, x.look(6), 1);
            DUE.is("recover()" + with, x.recover(), 0);
            DUE.is("blocks of recover()" + with, x.look(4), before);
            DUE.is("look(3)" + with, x.look(3), 0);
            DUE.is("look(0)" + with, x.look(0), 4);
            DUE.is("classOf(4)" + with, x.classOf(4), 1);
            DUE.is("get(4, 0)" + with, x.get(4, 0), 9);
            DUE.is("collect()" + with, x.collect(), 1);
            DUE.is("blocks of collect()" + with, x.look(4), before + 4);
            DUE.is("look(0) then" + with, x.look(0), 3);
            DUE.is("look(3) then" + with, x.look(3), 1);
        }
        ObjectBase other = Bases.small();
        other.collect();
        other.arm(3);
        DUE.is("collect() from the other half", other.collect(), DOWN);
        other.recover();
        DUE.is("look(3)", other.look(3), 1);
        DUE.is("look(0)", other.look(0), 3);
        ObjectBase x = Bases.withObjects(16, 16);
        x.arm(16);
        DUE.is("collect() without its last block", x.collect(), DOWN);
        x.recover();
        DUE.is("collect() of a full half", x.collect(), 0);
        DUE.is("look(0)", x.look(0), 16);
    }

    private static void armEdges() {
        DUE.sentence("false if the base is down, or n is not 0 .. 1000");
        int[] right = {0, 1, 2, 999, 1000};
        for (int n : right) {
            ObjectBase x = Bases.small();
            DUE.yes("arm(" + n + ")", x.arm(n));
            DUE.is("look(5)", x.look(5), n);
            DUE.is("look(6)", x.look(6), 0);
            ObjectBase y = Bases.inBatch();
            DUE.yes("arm(" + n + ") in a batch", y.arm(n));
            DUE.is("look(5)", y.look(5), n);
            DUE.is("look(7)", y.look(7), 1);
        }
        int[] wrong = {-1, -2, 1001, 1002, 65536, Integer.MIN_VALUE, Integer.MAX_VALUE};
        for (int n : wrong) {
            Twins.refused(DUE, "arm(" + n + ")", Bases::small, x -> x.arm(n));
            Twins.refused(DUE, "arm(" + n + ") in a batch", Bases::inBatch, x -> x.arm(n));
            Twins.refused(DUE, "arm(" + n + ") when armed", () -> {
                ObjectBase x = Bases.small();
                x.arm(3);
                return x;
            }, x -> x.arm(n));
        }
        for (int n : right) {
            Twins.refused(DUE, "arm(" + n + ") while down", () -> Bases.crashed(Bases.small()), x -> x.arm(n));
            Twins.refused(DUE, "arm(" + n + ") while down by arms", () -> Bases.cutCommit(2), x -> x.arm(n));
        }
    }

    private static void armedWithAThousand() {
        DUE.sentence("(with n, n blocks are)");
        ObjectBase x = Bases.withObjects(9, 9);
        int before = x.look(4);
        x.arm(1000);
        for (int i = 1; i <= 100; i++) {
            DUE.is("collect() " + i, x.collect(), 0);
            DUE.is("look(5)", x.look(5), 1000 - 10 * i);
        }
        DUE.is("look(6)", x.look(6), 0);
        DUE.is("the block behind the thousandth", x.collect(), DOWN);
        DUE.is("look(4)", x.look(4), before + 1000);
    }

    private static void armedAnew() {
        DUE.sentence("Arms the disk with n (0: the next block is not written), instead of what it was armed with");
        ObjectBase x = Bases.withObjects(1, 1);
        int before = x.look(4);
        x.arm(1);
        DUE.yes("arm(4)", x.arm(4));
        DUE.is("look(5)", x.look(5), 4);
        DUE.is("collect()", x.collect(), 0);
        DUE.is("look(5)", x.look(5), 2);
        DUE.yes("arm(1)", x.arm(1));
        DUE.is("collect()", x.collect(), DOWN);
        DUE.is("look(4)", x.look(4), before + 3);
        x.recover();
        x.arm(5);
        DUE.yes("arm(0)", x.arm(0));
        DUE.is("collect()", x.collect(), DOWN);
        DUE.is("the next block is not written", x.look(4), before + 3);
    }

    private static void whatWritesNothing() {
        DUE.sentence("(0: the next block is not written)");
        ObjectBase x = Bases.small();
        int before = x.look(4);
        x.arm(0);
        DUE.yes("begin()", x.begin());
        DUE.is("make(1)", x.make(1), 5);
        DUE.yes("put(5, 0, 1)", x.put(5, 0, 1));
        DUE.yes("name(0, 5)", x.name(0, 5));
        DUE.yes("abort()", x.abort());
        DUE.is("ask(0)", x.ask(0), 2);
        DUE.is("index", x.index(1, 1, 0, -1), 1);
        DUE.is("prepare()", x.prepare(), 2);
        DUE.yes("crash()", x.crash());
        DUE.is("recover()", x.recover(), 0);
        DUE.is("look(4)", x.look(4), before);
    }

    private static void crashEdges() {
        DUE.sentence("The base goes down; false if it is down.");
        DUE.yes("crash() of a new one", new ObjectBase().crash());
        DUE.yes("crash()", Bases.small().crash());
        DUE.yes("crash() in a batch", Bases.inBatch().crash());
        Twins.refused(DUE, "crash() again", () -> Bases.crashed(Bases.small()), x -> x.crash());
        Twins.refused(DUE, "crash() while down in the log", () -> Bases.cutCommit(2), x -> x.crash());
        Twins.refused(DUE, "crash() while down behind the mark", () -> Bases.cutCommit(4), x -> x.crash());
        Twins.refused(DUE, "crash() while down by a collection", () -> Bases.cutCollection(1), x -> x.crash());
        ObjectBase x = Bases.inBatch();
        int before = x.look(4);
        x.crash();
        DUE.is("look(6)", x.look(6), 1);
        DUE.is("look(4)", x.look(4), before);
        DUE.sentence("an open batch is gone");
        DUE.is("look(7)", x.look(7), 0);
        DUE.is("recover()", x.recover(), 0);
        DUE.is("look(7)", x.look(7), 0);
        DUE.is("get(1, 0)", x.get(1, 0), 5);
        DUE.is("classOf(5)", x.classOf(5), 0);
        DUE.is("named(3)", x.named(3), 0);
        DUE.is("commit()", x.commit(), BAD);
        DUE.no("abort()", x.abort());
    }

    private static void recoverRefused() {
        DUE.sentence("1 if a batch holds by that, else 0. BAD if it is not down.");
        Twins.refused(DUE, "recover() of a new one", ObjectBase::new, x -> x.recover(), BAD);
        Twins.refused(DUE, "recover()", Bases::small, x -> x.recover(), BAD);
        Twins.refused(DUE, "recover() in a batch", Bases::inBatch, x -> x.recover(), BAD);
        Twins.refused(DUE, "recover() when armed", () -> {
            ObjectBase x = Bases.small();
            x.arm(3);
            return x;
        }, x -> x.recover(), BAD);
        Twins.refused(DUE, "recover() again", () -> {
            ObjectBase x = Bases.cutCommit(5);
            x.recover();
            return x;
        }, x -> x.recover(), BAD);
    }

    /** The batch of Bases.cutCommit() has w = 3: log 1 to 3, mark 4, home 5 to 7, end 8. */
    private static void cutCommits() {
        DUE.sentence("if the mark is in the log, all w blocks are written where they belong (again, if some were) and one that makes the log empty: the batch holds");
        int before = Bases.inBatch().look(4);
        for (int n = 4; n <= 7; n++) {
            ObjectBase x = Bases.cutCommit(n);
            String with = " armed with " + n;
            DUE.is("look(6)" + with, x.look(6), 1);
            DUE.is("look(4)" + with, x.look(4), before + n);
            DUE.is("recover()" + with, x.recover(), 1);
            DUE.is("blocks of recover()" + with, x.look(4), before + n + 4);
            cutBatchHolds(x, with);
        }
        ObjectBase whole = Bases.cutCommit(8);
        DUE.is("look(6) armed with 8", whole.look(6), 0);
        DUE.is("look(5) armed with 8", whole.look(5), 0);
        DUE.is("look(4) armed with 8", whole.look(4), before + 8);
        cutBatchHolds(whole, " armed with 8");

        DUE.sentence("one block is written that makes it empty: the batch does not hold");
        for (int n = 0; n <= 3; n++) {
            ObjectBase x = Bases.cutCommit(n);
            String with = " armed with " + n;
            DUE.is("look(6)" + with, x.look(6), 1);
            DUE.is("look(4)" + with, x.look(4), before + n);
            DUE.is("recover()" + with, x.recover(), 0);
            DUE.is("blocks of recover()" + with, x.look(4), before + n + (n == 0 ? 0 : 1));
            DUE.is("get(1, 0)" + with, x.get(1, 0), 5);
            DUE.is("classOf(5)" + with, x.classOf(5), 0);
            DUE.is("named(2)" + with, x.named(2), 3);
            DUE.is("named(3)" + with, x.named(3), 0);
            DUE.is("look(0)" + with, x.look(0), 4);
            DUE.is("look(2)" + with, x.look(2), 5);
        }
    }

    private static void cutBatchHolds(ObjectBase x, String with) {
        DUE.is("get(1, 0)" + with, x.get(1, 0), 6);
        DUE.is("get(5, 0)" + with, x.get(5, 0), 8);
        DUE.is("named(2)" + with, x.named(2), 0);
        DUE.is("named(3)" + with, x.named(3), 5);
        DUE.is("look(0)" + with, x.look(0), 5);
        DUE.is("look(1)" + with, x.look(1), 4);
        DUE.is("look(7)" + with, x.look(7), 0);
        DUE.is("make(1)" + with, Bases.begun(x).make(1), 6);
    }

    private static void cutBatchOfNothing() {
        DUE.sentence("(these two are written, too, if w is 0)");
        for (int n = 0; n <= 2; n++) {
            ObjectBase x = Bases.begun(new ObjectBase());
            x.arm(n);
            String with = " of nothing, armed with " + n;
            DUE.is("commit()" + with, x.commit(), n == 2 ? 0 : DOWN);
            DUE.is("look(4)" + with, x.look(4), n);
            DUE.is("recover()" + with, x.recover(), n == 2 ? BAD : n);
            DUE.is("look(4) then" + with, x.look(4), n == 1 ? 2 : n);
        }
    }

    private static void largestBatchCut() {
        DUE.sentence("RECOVER: if the mark is in the log");
        for (int n = 0; n <= 36; n++) {
            ObjectBase x = Bases.begun(Bases.schema());
            Bases.makeMany(x, 16);
            x.name(0, 16);
            x.put(16, 0, 3);
            x.arm(n);
            String with = " of 16 and a name, armed with " + n;
            boolean holds = n >= 18;
            DUE.is("commit()" + with, x.commit(), n == 36 ? 17 : DOWN);
            DUE.is("look(4)" + with, x.look(4), n);
            if (n < 36) {
                DUE.is("recover()" + with, x.recover(), holds ? 1 : 0);
                DUE.is("look(4) then" + with, x.look(4), holds ? n + 18 : n == 0 ? 0 : n + 1);
            }
            DUE.is("look(0)" + with, x.look(0), holds ? 16 : 0);
            DUE.is("get(16, 0)" + with, x.get(16, 0), holds ? 3 : BAD);
            DUE.is("look(2)" + with, x.look(2), 16);
        }
    }

    private static void newObjectsOfACutBatch() {
        DUE.sentence("the batch does not hold");
        ObjectBase x = Bases.begun(Bases.schema());
        Bases.makeMany(x, 16);
        x.arm(16);
        DUE.is("commit() without the mark", x.commit(), DOWN);
        x.recover();
        x.begin();
        Bases.makeMany(x, 16);
        DUE.is("its objects take no slots", x.commit(), 16);
        DUE.is("classOf(16)", x.classOf(16), 0);
        DUE.is("classOf(32)", x.classOf(32), 1);
    }

    private static void emptyLog() {
        DUE.sentence("if the log has blocks but no mark");
        for (int n = 0; n <= 8; n++) {
            ObjectBase x = Bases.cutCommit(n);
            x.recover();
            int before = x.look(4);
            x.crash();
            DUE.is("recover() again behind " + n, x.recover(), 0);
            DUE.is("the log was empty behind " + n, x.look(4), before);
            Bases.begun(x).put(1, 0, 33);
            x.arm(1);
            DUE.is("commit() behind " + n, x.commit(), DOWN);
            DUE.is("recover() of that behind " + n, x.recover(), 0);
            DUE.is("blocks of that behind " + n, x.look(4), before + 2);
        }
        ObjectBase y = Bases.inBatch();
        int before = y.look(4);
        y.crash();
        y.recover();
        DUE.is("a batch that was not committed has no log", y.look(4), before);
    }

    private static void recoverIsNotArmed() {
        DUE.sentence("The disk is not armed any more, and the base recovers");
        for (int n = 0; n <= 7; n++) {
            ObjectBase x = Bases.cutCommit(n);
            DUE.is("look(5) while down", x.look(5), 0);
            x.recover();
            DUE.is("look(5)", x.look(5), -1);
            DUE.is("look(6)", x.look(6), 0);
            DUE.is("commit()", Bases.begun(x).commit(), 0);
        }
        ObjectBase x = Bases.small();
        x.arm(0);
        x.crash();
        x.recover();
        DUE.is("look(5) behind crash()", x.look(5), -1);
        DUE.is("collect()", x.collect(), 1);
        ObjectBase y = Bases.cutCommit(2);
        DUE.is("recover()", y.recover(), 0);
        DUE.yes("arm(1) behind it", y.arm(1));
        DUE.is("look(5)", y.look(5), 1);
    }

    private static void whatStays() {
        DUE.sentence("Classes, fields, indexes and questions stay when the base goes down; what was asked latest is forgotten.");
        ObjectBase x = Bases.withClasses(4);
        x.field(4, 1, 4);
        x.field(4, 0, 0);
        x.index(4, 0, 1, -1);
        Texts.prepare(x, "*D?x.a.b=0");
        x.crash();
        x.recover();
        DUE.is("a fifth class", x.type(4), 5);
        DUE.is("a third field", x.field(5, 2, 4), 2);
        DUE.is("a second index", x.index(5, 1, -1, -1), 1);
        DUE.is("a second question", Texts.prepare(x, "#E"), 1);
        x.begin();
        x.make(4);
        x.make(4);
        x.point(1, 0, 2);
        x.name(0, 1);
        x.commit();
        x.crash();
        x.recover();
        DUE.is("ask(0)", x.ask(0), 1);
        DUE.is("by its index", x.look(8), 1);
        DUE.is("hit(0)", x.hit(0), 1);
        int[] cuts = {0, 1, 2};
        for (int cut : cuts) {
            x.ask(0);
            if (cut == 0) {
                x.crash();
            } else {
                x.arm(0);
                DUE.is("goes down", cut == 1 ? Bases.begun(x).commit() : x.collect(), DOWN);
            }
            DUE.is("look(8) while down", x.look(8), 0);
            DUE.is("sum() while down", x.sum(), 0);
            DUE.is("hit(0) while down", x.hit(0), DOWN);
            x.recover();
            DUE.is("look(8)", x.look(8), 0);
            DUE.is("sum()", x.sum(), 0);
            DUE.is("hit(0)", x.hit(0), BAD);
        }
    }
}
