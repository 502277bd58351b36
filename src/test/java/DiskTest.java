/** Promises 11 and 13 to 16 where the disk fails: commit, collect, arm, crash, recover. */
public final class DiskTest {
    private static final Due DUE = new Due("DiskTest");

    public static void main(String[] args) {
        for (int w = 0; w <= 4; w++) {
            for (int n = 0; n <= 2 * w + 3; n++) {
                cutCommit(w, n);
            }
        }
        for (int reached = 0; reached <= 4; reached++) {
            for (int n = 0; n <= reached + 2; n++) {
                cutCollect(reached, n);
            }
        }
        collect();
        collectKeepsWhatIsReached();
        arm();
        crash();
        whatStaysAndWhatIsForgotten();
        DUE.end();
    }

    /** Objects 1 to 4 of a class with a number, named. */
    private static ObjectBase base() {
        ObjectBase x = new ObjectBase();
        x.type(0);
        x.field(1, 0, 0);
        x.field(1, 1, 1);
        x.begin();
        for (int id = 1; id <= 4; id++) {
            x.make(1);
            x.name(id - 1, id);
        }
        x.commit();
        return x;
    }

    private static void cutCommit(int w, int n) {
        String run = "w " + w + ", armed " + n + ": ";
        ObjectBase x = base();
        x.begin();
        for (int id = 1; id <= w; id++) {
            x.put(id, 0, 70 + id);
        }
        int before = x.look(4);
        DUE.yes(run + "arm", x.arm(n));
        boolean whole = n >= 2 * w + 2;
        boolean marked = n >= w + 1;
        DUE.is(run + "commit()", x.commit(), whole ? w : ObjectBase.DOWN);
        DUE.is(run + "blocks", x.look(4), before + Math.min(n, 2 * w + 2));
        DUE.is(run + "armed", x.look(5), Math.max(0, n - 2 * w - 2));
        DUE.is(run + "down", x.look(6), whole ? 0 : 1);
        DUE.is(run + "open", x.look(7), 0);
        if (!whole) {
            int again = marked ? w + 1 : n > 0 ? 1 : 0;
            int soFar = x.look(4);
            DUE.is(run + "recover()", x.recover(), marked ? 1 : 0);
            DUE.is(run + "blocks of recover", x.look(4), soFar + again);
            DUE.is(run + "not armed", x.look(5), -1);
            DUE.is(run + "up", x.look(6), 0);
        }
        for (int id = 1; id <= 4; id++) {
            DUE.is(run + "get(" + id + ", 0)", x.get(id, 0), marked && id <= w ? 70 + id : 0);
        }
        emptyLogAfter(run, x);
    }

    private static void emptyLogAfter(String run, ObjectBase x) {
        int soFar = x.look(4);
        x.crash();
        DUE.is(run + "recover() with an empty log", x.recover(), 0);
        DUE.is(run + "no block for an empty log", x.look(4), soFar);
    }

    private static void cutCollect(int reached, int n) {
        String run = "reached " + reached + ", armed " + n + ": ";
        ObjectBase x = base();
        x.begin();
        for (int id = reached + 1; id <= 4; id++) {
            x.name(id - 1, 0);
        }
        x.commit();
        int before = x.look(4);
        x.arm(n);
        boolean whole = n >= reached + 1;
        DUE.is(run + "collect()", x.collect(), whole ? 4 - reached : ObjectBase.DOWN);
        DUE.is(run + "blocks", x.look(4), before + Math.min(n, reached + 1));
        DUE.is(run + "down", x.look(6), whole ? 0 : 1);
        if (!whole) {
            int soFar = x.look(4);
            DUE.is(run + "armed", x.look(5), 0);
            DUE.is(run + "recover()", x.recover(), 0);
            DUE.is(run + "no block", x.look(4), soFar);
        }
        DUE.is(run + "half", x.look(3), whole ? 1 : 0);
        DUE.is(run + "slots", x.look(0), whole ? reached : 4);
        DUE.is(run + "reached", x.look(1), reached);
        DUE.is(run + "classOf(4)", x.classOf(4), whole && reached < 4 ? 0 : 1);
        x.arm(1000);
        DUE.is(run + "collect() again", x.collect(), whole ? 0 : 4 - reached);
        DUE.is(run + "slots again", x.look(0), reached);
    }

    private static void collect() {
        ObjectBase x = new ObjectBase();
        DUE.is("collect() of nothing", x.collect(), 0);
        DUE.is("one block", x.look(4), 1);
        DUE.is("the other half", x.look(3), 1);
        DUE.is("collect() again", x.collect(), 0);
        DUE.is("and back", x.look(3), 0);
        x.begin();
        DUE.is("collect() in a batch", x.collect(), ObjectBase.BAD);
        x.crash();
        DUE.is("collect() while down", x.collect(), ObjectBase.DOWN);
    }

    private static void collectKeepsWhatIsReached() {
        ObjectBase x = new ObjectBase();
        x.type(0);
        x.field(1, 1, 1);
        x.field(1, 2, 1);
        x.begin();
        for (int id = 1; id <= 8; id++) {
            x.make(1);
        }
        x.name(2, 5);
        x.point(5, 0, 3);
        x.join(3, 1, 8, true);
        x.join(3, 1, 5, true);
        x.point(8, 0, 8);
        x.point(1, 0, 2);
        x.point(2, 0, 1);
        x.join(4, 1, 5, true);
        x.commit();
        DUE.is("look(1)", x.look(1), 3);
        DUE.is("an unreached one is told of", x.get(1, 0), 2);
        DUE.is("collect(), rings too", x.collect(), 5);
        DUE.is("classOf(1)", x.classOf(1), 0);
        DUE.is("get(1, 0)", x.get(1, 0), ObjectBase.BAD);
        DUE.no("holds(4, 1, 5)", x.holds(4, 1, 5));
        DUE.is("get(5, 0)", x.get(5, 0), 3);
        DUE.is("get(3, 1)", x.get(3, 1), 2);
        DUE.is("classOf(8)", x.classOf(8), 1);
        DUE.is("look(0)", x.look(0), 3);
        DUE.is("look(2)", x.look(2), 8);
        x.begin();
        DUE.is("IDs go on", x.make(1), 9);
    }

    private static void arm() {
        ObjectBase x = base();
        DUE.no("arm(-1)", x.arm(-1));
        DUE.no("arm(1001)", x.arm(1001));
        DUE.is("not armed", x.look(5), -1);
        DUE.yes("arm(1000)", x.arm(1000));
        DUE.is("armed", x.look(5), 1000);
        DUE.no("arm(1001) again", x.arm(1001));
        DUE.is("armed still", x.look(5), 1000);
        DUE.yes("arm(0)", x.arm(0));
        DUE.is("armed with 0", x.look(5), 0);
        DUE.is("but not down", x.look(6), 0);
        DUE.yes("begin() writes nothing", x.begin());
        DUE.yes("arm in a batch", x.arm(3));
        DUE.is("commit() of nothing", x.commit(), 0);
        DUE.is("two less", x.look(5), 1);
        DUE.is("collect()", x.collect(), ObjectBase.DOWN);
        DUE.no("arm(5) while down", x.arm(5));
        DUE.is("0 while down by that", x.look(5), 0);
        x.recover();
        DUE.is("not armed any more", x.look(5), -1);
    }

    private static void crash() {
        ObjectBase x = base();
        x.arm(7);
        x.begin();
        x.put(1, 0, 9);
        DUE.yes("crash()", x.crash());
        DUE.no("crash() again", x.crash());
        DUE.is("down", x.look(6), 1);
        DUE.is("it is armed still", x.look(5), 7);
        DUE.is("recover()", x.recover(), 0);
        DUE.is("recover() again", x.recover(), ObjectBase.BAD);
        DUE.is("not armed", x.look(5), -1);
        DUE.is("the batch does not hold", x.get(1, 0), 0);
        DUE.is("no block", x.look(4), 12);
    }

    private static void whatStaysAndWhatIsForgotten() {
        ObjectBase x = base();
        x.index(1, 0, -1, -1);
        int q = Texts.prepare(x, "*A?x.a=0");
        DUE.is("ask", x.ask(q), 4);
        Texts.draft(x, "#A");
        x.crash();
        DUE.is("look(8) while down", x.look(8), 0);
        DUE.is("sum() while down", x.sum(), 0);
        DUE.is("hit(0) while down", x.hit(0), ObjectBase.DOWN);
        x.recover();
        DUE.is("look(8)", x.look(8), 0);
        DUE.is("sum()", x.sum(), 0);
        DUE.is("hit(0)", x.hit(0), ObjectBase.BAD);
        DUE.is("the question stays", x.ask(q), 4);
        DUE.is("hit(3)", x.hit(3), 4);
        DUE.is("the draft stays", x.prepare(), 1);
        DUE.is("classes stay", x.classOf(1), 1);
        DUE.is("fields stay", x.get(4, 1), 0);
        x.arm(0);
        x.begin();
        DUE.is("commit()", x.commit(), ObjectBase.DOWN);
        DUE.is("forgotten by a commit that goes down", x.look(8), 0);
        x.recover();
        x.ask(q);
        x.arm(0);
        DUE.is("collect()", x.collect(), ObjectBase.DOWN);
        DUE.is("forgotten by a collection that goes down", x.look(8), 0);
        x.recover();
        DUE.is("forgotten, hit(0)", x.hit(0), ObjectBase.BAD);
    }
}
