/** Promises 5 to 12: begin, make, put, point, join, name, commit, abort. */
public final class BatchTest {
    private static final Due DUE = new Due("BatchTest");

    public static void main(String[] args) {
        beginAndAbort();
        makeAndIds();
        put();
        point();
        join();
        name();
        whatIsKnown();
        blocksOfACommit();
        roomOfACommit();
        abortLeavesNothing();
        refusedWithoutBatchOrDown();
        DUE.end();
    }

    /** A (1): a number, b -> A, c set of A; B (2) extends A: d number; C (3): e -> B. */
    private static ObjectBase base() {
        ObjectBase x = new ObjectBase();
        x.type(0);
        x.type(1);
        x.type(0);
        x.field(1, 0, 0);
        x.field(1, 1, 1);
        x.field(1, 2, 1);
        x.field(2, 0, 0);
        x.field(3, 1, 2);
        return x;
    }

    /** 1 of A, 2 of B, 3 of C, all named. */
    private static ObjectBase baseWithThree() {
        ObjectBase x = base();
        x.begin();
        for (int c = 1; c <= 3; c++) {
            x.make(c);
            x.name(c - 1, c);
        }
        x.commit();
        return x;
    }

    private static void beginAndAbort() {
        ObjectBase x = base();
        DUE.no("abort() without a batch", x.abort());
        DUE.yes("begin()", x.begin());
        DUE.is("look(7)", x.look(7), 1);
        DUE.no("begin() again", x.begin());
        DUE.yes("abort()", x.abort());
        DUE.is("look(7) after abort", x.look(7), 0);
        DUE.no("abort() again", x.abort());
        DUE.yes("begin() after abort", x.begin());
        x.crash();
        DUE.is("look(7) while down", x.look(7), 0);
        DUE.no("begin() while down", x.begin());
        DUE.no("abort() while down", x.abort());
        x.recover();
        DUE.no("abort(): the batch is gone with the crash", x.abort());
    }

    private static void makeAndIds() {
        ObjectBase x = base();
        DUE.is("make(1) without a batch", x.make(1), ObjectBase.BAD);
        x.begin();
        DUE.is("make(0)", x.make(0), ObjectBase.BAD);
        DUE.is("make(4)", x.make(4), ObjectBase.BAD);
        DUE.is("make(-1)", x.make(-1), ObjectBase.BAD);
        DUE.is("make(1)", x.make(1), 1);
        DUE.is("make(3)", x.make(3), 2);
        DUE.is("a new number", x.get(1, 0), 0);
        DUE.is("a new reference", x.get(1, 1), 0);
        DUE.is("a new set", x.get(1, 2), 0);
        x.abort();
        x.begin();
        DUE.is("make(1) behind an abort", x.make(1), 3);
        x.crash();
        DUE.is("make(1) while down", x.make(1), ObjectBase.DOWN);
        x.recover();
        x.begin();
        for (int id = 4; id <= 62; id++) {
            DUE.is("make " + id, x.make(1), id);
        }
        DUE.is("make(1), 62 were made", x.make(1), ObjectBase.BAD);
        x.abort();
        x.begin();
        DUE.is("make(1), they count still", x.make(1), ObjectBase.BAD);
        DUE.is("look(2)", x.look(2), 62);
    }

    private static void put() {
        ObjectBase x = baseWithThree();
        DUE.no("put without a batch", x.put(1, 0, 5));
        x.begin();
        DUE.yes("put the least", x.put(1, 0, Integer.MIN_VALUE));
        DUE.is("get(1, 0)", x.get(1, 0), Integer.MIN_VALUE);
        DUE.yes("put the greatest", x.put(2, 3, Integer.MAX_VALUE));
        DUE.is("get(2, 3)", x.get(2, 3), Integer.MAX_VALUE);
        DUE.no("put on a reference", x.put(1, 1, 2));
        DUE.no("put on a set", x.put(1, 2, 2));
        DUE.no("put on a field of a class below", x.put(1, 3, 2));
        DUE.no("put on another class", x.put(3, 0, 2));
        DUE.no("put, no such field", x.put(1, 5, 2));
        DUE.no("put, field -1", x.put(1, -1, 2));
        DUE.no("put, ID 0", x.put(0, 0, 2));
        DUE.no("put, ID 4", x.put(4, 0, 2));
        DUE.no("put, ID -1", x.put(-1, 0, 2));
        DUE.no("put, ID 65", x.put(65, 0, 2));
        DUE.no("put, ID 63", x.put(63, 0, 2));
        DUE.is("commit()", x.commit(), 2);
        DUE.is("get(1, 0) behind the commit", x.get(1, 0), Integer.MIN_VALUE);
    }

    private static void point() {
        ObjectBase x = baseWithThree();
        DUE.no("point without a batch", x.point(1, 1, 2));
        x.begin();
        DUE.yes("point to one of a class below", x.point(1, 1, 2));
        DUE.yes("point to itself", x.point(2, 1, 2));
        DUE.no("point to another class", x.point(1, 1, 3));
        DUE.no("point to a class above", x.point(3, 4, 1));
        DUE.yes("point to the class", x.point(3, 4, 2));
        DUE.is("get(3, 4)", x.get(3, 4), 2);
        DUE.yes("point to none", x.point(3, 4, 0));
        DUE.is("get(3, 4) none", x.get(3, 4), 0);
        DUE.no("point to 4", x.point(1, 1, 4));
        DUE.no("point to -1", x.point(1, 1, -1));
        DUE.no("point to 66", x.point(1, 1, 66));
        DUE.no("point, a number", x.point(1, 0, 2));
        DUE.no("point, a set", x.point(1, 2, 2));
        DUE.no("point, another class's field", x.point(1, 4, 2));
        DUE.no("point, ID 0", x.point(0, 1, 2));
        DUE.no("point, field 8", x.point(1, 8, 2));
        DUE.is("get(1, 1)", x.get(1, 1), 2);
    }

    private static void join() {
        ObjectBase x = baseWithThree();
        DUE.no("join without a batch", x.join(1, 2, 1, true));
        x.begin();
        DUE.yes("join(1, 2, 1, true)", x.join(1, 2, 1, true));
        DUE.yes("join(1, 2, 2, true)", x.join(1, 2, 2, true));
        DUE.yes("join again", x.join(1, 2, 2, true));
        DUE.is("get(1, 2)", x.get(1, 2), 2);
        DUE.yes("holds(1, 2, 2)", x.holds(1, 2, 2));
        DUE.yes("out", x.join(1, 2, 2, false));
        DUE.yes("out again", x.join(1, 2, 2, false));
        DUE.no("holds(1, 2, 2) out", x.holds(1, 2, 2));
        DUE.is("get(1, 2) out", x.get(1, 2), 1);
        DUE.no("join 0", x.join(1, 2, 0, true));
        DUE.no("join 0 out", x.join(1, 2, 0, false));
        DUE.no("join another class", x.join(1, 2, 3, true));
        DUE.no("another class out", x.join(1, 2, 3, false));
        DUE.no("join 4", x.join(1, 2, 4, true));
        DUE.no("join 65", x.join(1, 2, 65, true));
        DUE.no("join -63", x.join(1, 2, -63, true));
        DUE.no("join, a number", x.join(1, 0, 1, true));
        DUE.no("join, a reference", x.join(1, 1, 1, true));
        DUE.no("join, another class's field", x.join(3, 2, 1, true));
        DUE.no("join, field 7", x.join(1, 7, 1, true));
        DUE.no("join, ID 9", x.join(9, 2, 1, true));
        DUE.is("get(1, 2) at the end", x.get(1, 2), 1);
        DUE.is("commit(): only 1 was changed", x.commit(), 1);
    }

    private static void name() {
        ObjectBase x = base();
        DUE.no("name without a batch", x.name(0, 0));
        x.begin();
        x.make(3);
        DUE.yes("name(3, 1)", x.name(3, 1));
        DUE.is("named(3)", x.named(3), 1);
        DUE.yes("name(0, 0)", x.name(0, 0));
        DUE.no("name(4, 1)", x.name(4, 1));
        DUE.no("name(-1, 1)", x.name(-1, 1));
        DUE.no("name(0, 2)", x.name(0, 2));
        DUE.no("name(0, -1)", x.name(0, -1));
        DUE.no("name(0, 65)", x.name(0, 65));
        DUE.is("named(0)", x.named(0), 0);
        DUE.is("commit()", x.commit(), 2);
        DUE.is("named(3) behind it", x.named(3), 1);
        x.begin();
        x.name(3, 0);
        DUE.is("named(3) in the batch", x.named(3), 0);
        x.abort();
        DUE.is("named(3) aborted", x.named(3), 1);
    }

    private static void whatIsKnown() {
        ObjectBase x = baseWithThree();
        x.begin();
        x.name(0, 0);
        DUE.no("reached(1)", x.reached(1));
        DUE.yes("put on one that was reached when it began", x.put(1, 0, 7));
        DUE.yes("point to it", x.point(2, 1, 1));
        DUE.yes("reached(1) again", x.reached(1));
        DUE.yes("and not", x.point(2, 1, 0));
        x.make(1);
        DUE.yes("put on a new one", x.put(4, 0, 8));
        DUE.is("commit()", x.commit(), 4);
        x.begin();
        DUE.no("put on one that was not reached when it began", x.put(1, 0, 9));
        DUE.no("a new one of before that is not reached", x.put(4, 0, 9));
        DUE.no("point to it", x.point(2, 1, 1));
        DUE.no("join it", x.join(2, 2, 4, true));
        DUE.no("name it", x.name(0, 1));
        DUE.is("but it is told of", x.get(1, 0), 7);
        DUE.is("commit() of nothing", x.commit(), 0);
    }

    private static void blocksOfACommit() {
        ObjectBase x = baseWithThree();
        int written = x.look(4);
        DUE.is("four blocks, twice, and two", written, 10);
        x.begin();
        DUE.is("commit() of nothing", x.commit(), 0);
        DUE.is("writes two", x.look(4), 12);
        x.begin();
        x.put(1, 0, 0);
        x.put(1, 0, 0);
        x.point(1, 1, 0);
        x.join(2, 2, 1, false);
        x.name(0, 1);
        x.name(2, 3);
        DUE.is("changes that change nothing count", x.commit(), 3);
        DUE.is("blocks", x.look(4), 20);
        x.begin();
        x.put(1, 1, 0);
        x.point(1, 1, 3);
        x.join(1, 2, 0, true);
        x.name(4, 0);
        DUE.is("what was refused does not", x.commit(), 0);
        DUE.is("commit() without a batch", x.commit(), ObjectBase.BAD);
        DUE.is("blocks at the end", x.look(4), 22);
    }

    private static void roomOfACommit() {
        ObjectBase x = baseWithThree();
        x.begin();
        for (int i = 0; i < 14; i++) {
            x.make(1);
        }
        x.arm(0);
        DUE.is("17 objects", x.commit(), ObjectBase.ROOM);
        DUE.is("the batch stays open", x.look(7), 1);
        DUE.is("nothing was written", x.look(4), 10);
        DUE.is("still 17", x.commit(), ObjectBase.ROOM);
        x.abort();
        x.arm(1000);
        x.begin();
        for (int i = 0; i < 13; i++) {
            x.make(1);
        }
        DUE.is("16 objects", x.commit(), 13);
        DUE.is("look(0)", x.look(0), 16);
        x.begin();
        x.put(1, 0, 1);
        DUE.is("no new ones need no room", x.commit(), 1);
        x.begin();
        x.make(1);
        DUE.is("one more", x.commit(), ObjectBase.ROOM);
        x.abort();
        DUE.is("collect()", x.collect(), 13);
        x.begin();
        x.make(1);
        DUE.is("room again", x.commit(), 1);
    }

    private static void abortLeavesNothing() {
        ObjectBase x = baseWithThree();
        x.begin();
        x.put(1, 0, 5);
        x.point(1, 1, 2);
        x.join(1, 2, 2, true);
        x.name(1, 0);
        x.make(1);
        x.name(3, 4);
        x.abort();
        DUE.is("get(1, 0)", x.get(1, 0), 0);
        DUE.is("get(1, 1)", x.get(1, 1), 0);
        DUE.is("get(1, 2)", x.get(1, 2), 0);
        DUE.is("named(1)", x.named(1), 2);
        DUE.is("named(3)", x.named(3), 0);
        DUE.is("classOf(4)", x.classOf(4), 0);
        DUE.is("look(0)", x.look(0), 3);
        DUE.is("look(2)", x.look(2), 4);
        DUE.is("look(4)", x.look(4), 10);
    }

    private static void refusedWithoutBatchOrDown() {
        ObjectBase x = baseWithThree();
        x.begin();
        x.crash();
        DUE.no("put while down", x.put(1, 0, 1));
        DUE.no("point while down", x.point(1, 1, 1));
        DUE.no("join while down", x.join(1, 2, 1, true));
        DUE.no("name while down", x.name(0, 0));
        DUE.is("commit() while down", x.commit(), ObjectBase.DOWN);
        x.recover();
        DUE.no("put after the crash", x.put(1, 0, 1));
        DUE.no("point after the crash", x.point(1, 1, 1));
        DUE.no("join after the crash", x.join(1, 2, 1, true));
        DUE.no("name after the crash", x.name(0, 0));
        DUE.is("commit() after the crash", x.commit(), ObjectBase.BAD);
    }
}
