import java.util.ArrayList;
import java.util.List;
import java.util.Random;
import java.util.function.Supplier;
import java.util.function.ToLongFunction;

/**
 * What holds for all calls at once: what a base that is down refuses, which refusal comes first, that
 * a call that is refused changes nothing, and that the 512th call is as good as the first.
 */
public final class RefusalTest {
    private static final Due DUE = new Due("RefusalTest");
    private static final int BAD = ObjectBase.BAD;
    private static final int ROOM = ObjectBase.ROOM;
    private static final int DOWN = ObjectBase.DOWN;
    private static final int[] NUMBERS = {
        Integer.MIN_VALUE, -65, -64, -63, -2, -1, 0, 1, 2, 3, 4, 5, 6, 7, 8, 9, 12, 16, 17, 31, 32, 33, 61, 62, 63, 64, 65, 66, 1000, 1001,
        Integer.MAX_VALUE,
    };

    public static void main(String[] args) {
        twinsSeeChanges();
        downRefusesAll();
        downComesFirst();
        roomComesLast();
        theLastCallThatCounts();
        noCallThrows();
        DUE.end();
    }

    /** A comparison that overlooked a change would let every other test pass. */
    private static void twinsSeeChanges() {
        DUE.sentence("A call that is refused changes nothing, unless it says so.");
        seen("type", () -> Bases.withClasses(4), x -> x.type(0));
        seen("type of another parent", () -> Bases.withClasses(2), x -> x.type(0));
        seen("field", () -> Bases.withClasses(2), x -> x.field(1, 0, 0));
        seen("index", Bases::schema, x -> x.index(1, 0, -1, -1));
        seen("begin", Bases::small, x -> x.begin() ? 1 : 0);
        seen("begin of a new one", ObjectBase::new, x -> x.begin() ? 1 : 0);
        seen("make", Bases::inBatch, x -> x.make(1));
        seen("put", Bases::inBatch, x -> x.put(2, 0, 1) ? 1 : 0);
        seen("put of what it has", Bases::inBatch, x -> x.put(2, 0, 0) ? 1 : 0);
        seen("point", Bases::inBatch, x -> x.point(2, 1, 1) ? 1 : 0);
        seen("join", Bases::inBatch, x -> x.join(2, 2, 1, true) ? 1 : 0);
        seen("join out", Bases::inBatch, x -> x.join(3, 6, 2, false) ? 1 : 0);
        seen("name", Bases::inBatch, x -> x.name(2, 1) ? 1 : 0);
        seen("name that it has", () -> Bases.begun(Bases.small()), x -> x.name(0, 1) ? 1 : 0);
        seen("commit", Bases::inBatch, x -> x.commit());
        seen("commit of nothing", () -> Bases.begun(Bases.small()), x -> x.commit());
        seen("abort", Bases::inBatch, x -> x.abort() ? 1 : 0);
        seen("abort of nothing", () -> Bases.begun(Bases.small()), x -> x.abort() ? 1 : 0);
        seen("collect", Bases::small, x -> x.collect());
        seen("arm", Bases::small, x -> x.arm(1000) ? 1 : 0);
        seen("crash", Bases::schema, x -> x.crash() ? 1 : 0);
        seen("recover", () -> Bases.crashed(Bases.small()), x -> x.recover());
        seen("draft", Bases::small, x -> x.draft('|') ? 1 : 0);
        seen("an empty draft", Bases::small, x -> x.draft(0) ? 1 : 0);
        seen("prepare", Bases::small, x -> x.prepare());
        seen("ask", Bases::small, x -> x.ask(0));
    }

    private static void seen(String call, Supplier<ObjectBase> base, ToLongFunction<ObjectBase> told) {
        DUE.yes("the change of " + call + " is seen", Twins.changesSeen(base, told) > 0);
    }

    private static List<Supplier<ObjectBase>> waysToGoDown() {
        List<Supplier<ObjectBase>> ways = new ArrayList<>();
        ways.add(() -> Bases.crashed(new ObjectBase()));
        ways.add(() -> Bases.crashed(Bases.small()));
        ways.add(() -> Bases.crashed(Bases.inBatch()));
        for (int blocks = 0; blocks < 8; blocks++) {
            int n = blocks;
            ways.add(() -> Bases.cutCommit(n));
        }
        for (int blocks = 0; blocks < 4; blocks++) {
            int n = blocks;
            ways.add(() -> Bases.cutCollection(n));
        }
        return ways;
    }

    private static void downRefusesAll() {
        DUE.sentence("A base that is down refuses every call but recover() and look() (DOWN, or false where that is a boolean, 0 where it is a long)");
        for (Supplier<ObjectBase> way : waysToGoDown()) {
            DUE.is("look(6)", way.get().look(6), 1);
            refusedDown("type(0)", way, x -> x.type(0));
            refusedDown("field(1, 0, 0)", way, x -> x.field(1, 0, 0));
            refusedDown("index(1, 0, -1, -1)", way, x -> x.index(1, 0, -1, -1));
            refusedDown("make(1)", way, x -> x.make(1));
            refusedDown("commit()", way, x -> x.commit());
            refusedDown("collect()", way, x -> x.collect());
            refusedDown("get(1, 0)", way, x -> x.get(1, 0));
            refusedDown("named(0)", way, x -> x.named(0));
            refusedDown("prepare()", way, x -> x.prepare());
            refusedDown("ask(0)", way, x -> x.ask(0));
            refusedDown("hit(0)", way, x -> x.hit(0));
            Twins.refused(DUE, "begin()", way, x -> x.begin());
            Twins.refused(DUE, "put(1, 0, 1)", way, x -> x.put(1, 0, 1));
            Twins.refused(DUE, "point(1, 1, 1)", way, x -> x.point(1, 1, 1));
            Twins.refused(DUE, "join(1, 2, 1, true)", way, x -> x.join(1, 2, 1, true));
            Twins.refused(DUE, "name(0, 0)", way, x -> x.name(0, 0));
            Twins.refused(DUE, "abort()", way, x -> x.abort());
            Twins.refused(DUE, "arm(3)", way, x -> x.arm(3));
            Twins.refused(DUE, "crash()", way, x -> x.crash());
            Twins.refused(DUE, "reached(1)", way, x -> x.reached(1));
            Twins.refused(DUE, "holds(1, 2, 1)", way, x -> x.holds(1, 2, 1));
            Twins.refused(DUE, "draft(33)", way, x -> x.draft(33));
            Twins.refused(DUE, "draft(0)", way, x -> x.draft(0));
            Twins.refused(DUE, "classOf(1)", way, x -> x.classOf(1), 0);
            Twins.refused(DUE, "sum()", way, x -> x.sum(), 0);
        }
    }

    private static void refusedDown(String call, Supplier<ObjectBase> way, ToLongFunction<ObjectBase> told) {
        Twins.refused(DUE, call, way, told, DOWN);
    }

    private static void downComesFirst() {
        DUE.sentence("DOWN comes before BAD, BAD before ROOM.");
        for (int n : NUMBERS) {
            ObjectBase x = Bases.crashed(Bases.inBatch());
            DUE.is("type(" + n + ")", x.type(n), DOWN);
            DUE.is("field(" + n + ", " + n + ", " + n + ")", x.field(n, n, n), DOWN);
            DUE.is("index(" + n + ", " + n + ", " + n + ", " + n + ")", x.index(n, n, n, n), DOWN);
            DUE.is("make(" + n + ")", x.make(n), DOWN);
            DUE.is("get(" + n + ", " + n + ")", x.get(n, n), DOWN);
            DUE.is("named(" + n + ")", x.named(n), DOWN);
            DUE.is("ask(" + n + ")", x.ask(n), DOWN);
            DUE.is("hit(" + n + ")", x.hit(n), DOWN);
            DUE.is("classOf(" + n + ")", x.classOf(n), 0);
        }
        DUE.is("commit() without a batch", Bases.crashed(Bases.small()).commit(), DOWN);
        DUE.is("collect() with a batch that is gone", Bases.crashed(Bases.inBatch()).collect(), DOWN);
    }

    private static void roomComesLast() {
        DUE.sentence("DOWN comes before BAD, BAD before ROOM.");
        ObjectBase full = Bases.begun(Bases.withObjects(16, 1));
        Bases.makeMany(full, 46);
        DUE.is("62 were made, without room: make(1)", full.make(1), BAD);
        DUE.is("commit()", full.commit(), ROOM);
        full.abort();
        DUE.is("no batch is open: commit()", full.commit(), BAD);
        ObjectBase x = Bases.schema();
        for (int q = 0; q < 12; q++) {
            Texts.prepare(x, "#A");
        }
        DUE.is("a question", Texts.prepare(x, "#B"), ROOM);
        DUE.is("none", Texts.prepare(x, "#D"), BAD);
        x.crash();
        DUE.is("down", x.prepare(), DOWN);
    }

    private static void theLastCallThatCounts() {
        DUE.sentence("An object is used for at most 512 calls after it has been made");
        ObjectBase x = new ObjectBase();
        x.type(0);
        x.field(1, 0, 0);
        x.index(1, 0, -1, -1);
        x.draft(Texts.packed("+x.aA?x."));
        x.draft(Texts.packed("a=168"));
        x.prepare();
        x.begin();
        x.make(1);
        x.name(0, 1);
        x.commit();
        int calls = 10;
        for (int i = 1; i <= 166; i++) {
            DUE.yes("begin()", x.begin());
            DUE.yes("put", x.put(1, 0, i + 2));
            DUE.is("commit()", x.commit(), 1);
            calls += 3;
        }
        DUE.is("look(4), call 509", x.look(4), 6 + 4 * 166);
        DUE.is("get(1, 0), call 510", x.get(1, 0), 168);
        DUE.is("ask(0), call 511", x.ask(0), 1);
        DUE.is("sum(), call 512", x.sum(), 168);
        DUE.is("calls", calls + 4, 512);

        ObjectBase y = new ObjectBase();
        for (int i = 1; i <= 511; i++) {
            y.collect();
        }
        DUE.is("look(4), call 512", y.look(4), 511);
    }

    /** What a call answers behind the 512th is free, but it throws nothing and comes to an end. */
    private static void noCallThrows() {
        DUE.sentence("what later calls answer is free");
        Random random = new Random(27);
        String[] pieces = {"*A", "#B", "+x.aA", "?", "x", "y", "z", ".a", ".b", ".c", "=", "<", ">", "!", "&", "|", "(", ")", "n", "n=n",
            "Eyx.c:", "Ezy.c:", "x.b.a=5", "-", "2147483", "0"};
        int calls = 0;
        for (int run = 0; run < 200; run++) {
            ObjectBase x = run % 3 == 0 ? new ObjectBase() : run % 3 == 1 ? Bases.inBatch() : Bases.withObjects(16, 16);
            for (int i = 0; i < 3000; i++) {
                anyCall(x, random, pieces);
                calls++;
            }
        }
        DUE.is("calls that threw nothing", calls, 600_000);
    }

    private static int any(Random random) {
        return random.nextInt(3) == 0 ? NUMBERS[random.nextInt(NUMBERS.length)] : random.nextInt(8);
    }

    private static void anyCall(ObjectBase x, Random random, String[] pieces) {
        int a = any(random);
        int b = any(random);
        int c = any(random);
        switch (random.nextInt(28)) {
            case 0 -> x.type(a);
            case 1 -> x.field(a, b, c);
            case 2 -> x.index(a, b, c, any(random));
            case 3 -> x.begin();
            case 4 -> x.make(a);
            case 5 -> x.put(a, b, c);
            case 6 -> x.point(a, b, c);
            case 7 -> x.join(a, b, c, random.nextBoolean());
            case 8 -> x.name(a, b);
            case 9 -> x.commit();
            case 10 -> x.abort();
            case 11 -> x.collect();
            case 12 -> x.arm(a);
            case 13 -> x.crash();
            case 14, 15 -> x.recover();
            case 16 -> x.classOf(a);
            case 17 -> x.reached(a);
            case 18 -> x.get(a, b);
            case 19 -> x.holds(a, b, c);
            case 20 -> x.named(a);
            case 21 -> x.draft(random.nextInt(20) == 0 ? 0 : random.nextLong());
            case 22 -> x.draft(Texts.packed(pieces[random.nextInt(pieces.length)]));
            case 23 -> x.prepare();
            case 24 -> x.ask(a);
            case 25 -> x.sum();
            case 26 -> x.hit(a);
            default -> x.look(a);
        }
    }
}
