/** The edges of promises 24 to 26, ask, sum and hit, and of what the terms tell of answers and plans. */
public final class AnswerEdgesTest {
    private static final Due DUE = new Due("AnswerEdgesTest");
    private static final int BAD = ObjectBase.BAD;
    private static final int DOWN = ObjectBase.DOWN;
    private static final int[] FAR = {-1, -2, 12, 13, 64, -64, Integer.MIN_VALUE, Integer.MAX_VALUE};

    public static void main(String[] args) {
        askRefused();
        askByID();
        sumEdges();
        largeSums();
        sumsWithoutValues();
        hitEdges();
        hitsOfOthers();
        latestStays();
        latestIsForgotten();
        greatAndSmall();
        equalOnes();
        noObject();
        noValue();
        emptySets();
        largeSets();
        orAndNot();
        planOfOneToThreeFields();
        plansOfLikePaths();
        plansThatAreNone();
        firstFactorCounts();
        classesOfPlans();
        whatAnIndexHas();
        numbersOfPlans();
        DUE.end();
    }

    /** 1 A: a 5, b 2; 2 A: a 7, b 3, c {3}; 3 A: a 5; 4 B: a 5, b 4, d 1, c {1, 2, 3, 4}; 5 A: a 5, not reached. */
    private static ObjectBase base() {
        ObjectBase x = Bases.begun(Bases.schema());
        Bases.makeMany(x, 3);
        x.make(2);
        x.make(1);
        int[] numbers = {5, 7, 5, 5, 5};
        for (int id = 1; id <= 5; id++) {
            x.put(id, 0, numbers[id - 1]);
        }
        x.put(4, 3, 1);
        x.point(1, 1, 2);
        x.point(2, 1, 3);
        x.point(4, 1, 4);
        x.join(2, 2, 3, true);
        for (int id = 1; id <= 4; id++) {
            x.join(4, 2, id, true);
        }
        x.name(0, 4);
        x.commit();
        return x;
    }

    private static void answer(ObjectBase x, String text, int... ids) {
        DUE.is("ask of " + text, x.ask(Texts.prepare(x, text)), ids.length);
        for (int i = 0; i < ids.length; i++) {
            DUE.is("hit(" + i + ") of " + text, x.hit(i), ids[i]);
        }
        DUE.is("hit(" + ids.length + ") of " + text, x.hit(ids.length), BAD);
    }

    private static void answer(String text, int... ids) {
        answer(base(), text, ids);
    }

    private static ObjectBase asked(String text) {
        ObjectBase x = base();
        x.ask(Texts.prepare(x, text));
        return x;
    }

    private static void askRefused() {
        DUE.sentence("DOWN; BAD: there is no such question, or a batch is open.");
        Twins.refused(DUE, "ask(0) of a new one", ObjectBase::new, x -> x.ask(0), BAD);
        Twins.refused(DUE, "ask(2), two are there", Bases::small, x -> x.ask(2), BAD);
        DUE.is("ask(1), two are there", Bases.small().ask(1), 1);
        DUE.is("ask(0), two are there", Bases.small().ask(0), 2);
        for (int q : FAR) {
            Twins.refused(DUE, "ask(" + q + ")", Bases::small, x -> x.ask(q), BAD);
            Twins.refused(DUE, "ask(" + q + ") in a batch", Bases::inBatch, x -> x.ask(q), BAD);
            Twins.refused(DUE, "ask(" + q + ") while down", () -> Bases.crashed(Bases.small()), x -> x.ask(q), DOWN);
        }
        for (int q = 0; q <= 1; q++) {
            int there = q;
            Twins.refused(DUE, "ask(" + q + ") in a batch", Bases::inBatch, x -> x.ask(there), BAD);
            Twins.refused(DUE, "ask(" + q + ") while down", () -> Bases.crashed(Bases.small()), x -> x.ask(there), DOWN);
            Twins.refused(DUE, "ask(" + q + ") with a mark in the log", () -> Bases.cutCommit(4), x -> x.ask(there), DOWN);
        }
        ObjectBase x = Bases.schema();
        for (int q = 0; q < 12; q++) {
            Texts.prepare(x, "#A");
        }
        DUE.is("ask(11), twelve are there", x.ask(11), 0);
        DUE.is("ask(12), twelve are there", x.ask(12), BAD);
    }

    private static void askByID() {
        DUE.sentence("They are asked for each object of that class that is reached, by ID; the object is x. Without a condition all FIT.");
        answer("*A", 1, 2, 3, 4);
        answer("*B", 4);
        answer("*C");
        answer("*A?x=x", 1, 2, 3, 4);
        ObjectBase x = Bases.withObjects(16, 16);
        answer(x, "*A", 1, 2, 3, 4, 5, 6, 7, 8, 9, 10, 11, 12, 13, 14, 15, 16);
        answer(Bases.withObjects(16, 0), "*A");
        answer(Bases.withObjects(16, 1), "*A", 1);
        answer(Bases.withObjects(0, 0), "*A");
        x.begin();
        x.name(0, 0);
        x.commit();
        DUE.is("none is reached any more", x.ask(0), 0);
    }

    private static void sumEdges() {
        DUE.sentence("the sum (for +), or how many fit (for * and #). 0 if nothing was asked.");
        DUE.is("nothing was asked", base().sum(), 0);
        DUE.is("*A", asked("*A").sum(), 4);
        DUE.is("#A", asked("#A").sum(), 4);
        DUE.is("+x.aA", asked("+x.aA").sum(), 22);
        DUE.is("+x.aA?x=n", asked("+x.aA?x=n").sum(), 0);
        DUE.is("*C", asked("*C").sum(), 0);
        DUE.is("+x.fC", asked("+x.fC").sum(), 0);
        DUE.is("while down", Bases.crashed(asked("+x.aA")).sum(), 0);
        DUE.sentence("for * and # how many fit, for + how many fit too");
        ObjectBase x = base();
        DUE.is("*A?x.a=5", x.ask(Texts.prepare(x, "*A?x.a=5")), 3);
        DUE.is("#A?x.a=5", x.ask(Texts.prepare(x, "#A?x.a=5")), 3);
        DUE.is("+x.aA?x.a=5", x.ask(Texts.prepare(x, "+x.aA?x.a=5")), 3);
        DUE.is("its sum", x.sum(), 15);
        DUE.is("+x.b.aA?x.b=n", x.ask(Texts.prepare(x, "+x.b.aA?x.b=n")), 1);
        DUE.is("its sum", x.sum(), 0);
    }

    private static ObjectBase allWith(int number) {
        ObjectBase x = Bases.begun(Bases.withObjects(16, 16));
        for (int id = 1; id <= 16; id++) {
            x.put(id, 0, number);
        }
        x.commit();
        return x;
    }

    private static void largeSums() {
        DUE.sentence("the sum of the path's number for those that fit, in longs");
        int[] numbers = {Integer.MAX_VALUE, Integer.MIN_VALUE, -1, 0, 1};
        for (int number : numbers) {
            ObjectBase x = allWith(number);
            DUE.is("ask of sixteen times " + number, x.ask(Texts.prepare(x, "+x.aA")), 16);
            DUE.is("sum() of sixteen times " + number, x.sum(), 16L * number);
        }
        ObjectBase x = allWith(Integer.MAX_VALUE);
        x.begin();
        x.put(16, 0, Integer.MIN_VALUE);
        x.commit();
        x.ask(Texts.prepare(x, "+x.aA"));
        DUE.is("sum()", x.sum(), 15L * Integer.MAX_VALUE + Integer.MIN_VALUE);
    }

    private static void sumsWithoutValues() {
        DUE.sentence("(what has no value counts 0)");
        DUE.is("+x.b.aA", asked("+x.b.aA").sum(), 7 + 5 + 0 + 5);
        DUE.is("+x.b.b.aA", asked("+x.b.b.aA").sum(), 5 + 0 + 0 + 5);
        DUE.is("+x.b.b.b.aA", asked("+x.b.b.b.aA").sum(), 5);
        DUE.is("+x.e.fB", asked("+x.e.fB").sum(), 0);
        ObjectBase x = base();
        DUE.is("they fit all the same", x.ask(Texts.prepare(x, "+x.e.fB")), 1);
    }

    private static void hitEdges() {
        DUE.sentence("the i-th object that fits (from 0, by ID). DOWN; BAD if there is none.");
        ObjectBase x = asked("*A?x.a=5");
        DUE.is("hit(0)", x.hit(0), 1);
        DUE.is("hit(2)", x.hit(2), 4);
        DUE.is("hit(3)", x.hit(3), BAD);
        for (int i : FAR) {
            DUE.is("hit(" + i + ")", x.hit(i), BAD);
        }
        DUE.is("hit(0) where none fits", asked("*A?x=n").hit(0), BAD);
        DUE.is("hit(0) where nothing was asked", base().hit(0), BAD);
        ObjectBase full = Bases.withObjects(16, 16);
        full.ask(Texts.prepare(full, "*A"));
        DUE.is("hit(15)", full.hit(15), 16);
        DUE.is("hit(16)", full.hit(16), BAD);
        x.crash();
        DUE.is("hit(0) while down", x.hit(0), DOWN);
        DUE.is("hit(-1) while down", x.hit(-1), DOWN);
        DUE.is("hit(3) while down", x.hit(3), DOWN);
    }

    private static void hitsOfOthers() {
        DUE.sentence("Of what was asked latest, a *");
        ObjectBase x = base();
        int all = Texts.prepare(x, "*A");
        int count = Texts.prepare(x, "#A");
        int sum = Texts.prepare(x, "+x.aA");
        int[] questions = {all, count, all, sum, all};
        for (int q : questions) {
            DUE.is("ask(" + q + ")", x.ask(q), 4);
            for (int i = 0; i < 4; i++) {
                DUE.is("hit(" + i + ") behind ask(" + q + ")", x.hit(i), q == all ? i + 1 : BAD);
            }
        }
    }

    private static void latestStays() {
        DUE.sentence("(hit() and sum() tell what came of it till the next one that is asked, also while a batch is open)");
        ObjectBase x = asked("*A?x.a=5");
        latestIs("behind ask()", x);
        x.begin();
        latestIs("in a batch", x);
        x.put(4, 0, 6);
        x.name(0, 0);
        latestIs("in a batch with changes", x);
        x.abort();
        latestIs("behind an abort", x);
        x.begin();
        x.name(0, 0);
        x.commit();
        latestIs("behind a commit", x);
        x.collect();
        latestIs("behind a collection", x);
        x.ask(9);
        latestIs("behind one that was refused", x);
        Texts.prepare(x, "#A");
        latestIs("behind prepare()", x);
        x.index(1, 0, -1, -1);
        latestIs("behind index()", x);
        DUE.is("the next one", x.ask(1), 0);
        DUE.is("hit(0)", x.hit(0), BAD);
        DUE.is("sum()", x.sum(), 0);
        DUE.sentence("Of what was asked latest (whatever was changed since)");
        ObjectBase y = asked("+x.aA");
        y.begin();
        y.put(4, 0, 100);
        y.commit();
        DUE.is("sum()", y.sum(), 22);
        DUE.is("asked again", y.ask(0), 4);
        DUE.is("sum()", y.sum(), 117);
    }

    private static void latestIs(String when, ObjectBase x) {
        DUE.is("hit(0) " + when, x.hit(0), 1);
        DUE.is("hit(2) " + when, x.hit(2), 4);
        DUE.is("hit(3) " + when, x.hit(3), BAD);
        DUE.is("sum() " + when, x.sum(), 3);
        DUE.is("look(8) " + when, x.look(8), 4);
    }

    private static void latestIsForgotten() {
        DUE.sentence("what was asked latest is forgotten");
        ObjectBase x = asked("*A");
        x.crash();
        x.recover();
        DUE.is("hit(0)", x.hit(0), BAD);
        DUE.is("sum()", x.sum(), 0);
        DUE.is("look(8)", x.look(8), 0);
        DUE.is("ask(0)", x.ask(0), 4);
        DUE.is("sum()", x.sum(), 4);
    }

    private static void greatAndSmall() {
        DUE.sentence("Or two OPERANDS with `=`, `<` or `>` between them");
        ObjectBase x = Bases.begun(Bases.withObjects(4, 4));
        x.put(1, 0, Integer.MIN_VALUE);
        x.put(2, 0, Integer.MAX_VALUE);
        x.put(3, 0, -1);
        x.commit();
        answer(x, "*A?x.a=-2147483648", 1);
        answer(x, "*A?x.a=2147483647", 2);
        answer(x, "*A?x.a<-2147483648");
        answer(x, "*A?x.a>2147483647");
        answer(x, "*A?x.a>-2147483648", 2, 3, 4);
        answer(x, "*A?x.a<2147483647", 1, 3, 4);
        answer(x, "*A?2147483647>x.a", 1, 3, 4);
        answer(x, "*A?x.a<0", 1, 3);
        answer(x, "*A?x.a>0", 2);
        answer(x, "*A?x.a=-0", 4);
        answer(x, "*A?-2147483648<2147483647", 1, 2, 3, 4);
        answer(x, "*A?-2147483648>2147483647");
    }

    private static void equalOnes() {
        DUE.sentence("< and > are for numbers, = for two numbers");
        answer("*A?x.a<5");
        answer("*A?x.a<6", 1, 3, 4);
        answer("*A?x.a>5", 2);
        answer("*A?x.a>4", 1, 2, 3, 4);
        answer("*A?x.a=5", 1, 3, 4);
        answer("*A?x.a=x.b.a", 4);
        answer("*A?x.a<x.b.a", 1);
        answer("*A?x.a>x.b.a", 2);
        answer("*A?5=5", 1, 2, 3, 4);
        answer("*A?5=-5");
        answer("*A?007=7", 1, 2, 3, 4);
        answer("*A?1<1");
        answer("*A?1>1");
    }

    private static void noObject() {
        DUE.sentence("or two of references (of whatever classes) and n (n = n always holds)");
        answer("*A?n=n", 1, 2, 3, 4);
        answer("*A?!n=n");
        answer("*A?x=n");
        answer("*A?n=x");
        answer("*B?x.e=n", 4);
        answer("*B?x.e=x.b");
        answer("*B?x.e=x.e", 4);
        ObjectBase x = Bases.begun(base());
        x.point(4, 1, 0);
        x.commit();
        answer(x, "*B?x.e=x.b", 4);
        DUE.sentence("A path through a reference to none has no value, but one that ends with that is n.");
        answer("*A?x.b=n", 3);
        answer("*A?x.b.b=n", 2);
        answer("*A?x.b.b.b=n", 1);
        answer("*A?x.b.b.b.b=n");
        answer("*A?x.b=x.b", 1, 2, 3, 4);
        answer("*A?x.b=x", 4);
    }

    private static void noValue() {
        DUE.sentence("With an operand that has no value nothing holds.");
        answer("*A?x.b.a=x.b.a", 1, 2, 4);
        answer("*A?x.b.a<100", 1, 2, 4);
        answer("*A?x.b.a>-100", 1, 2, 4);
        answer("*A?100>x.b.a", 1, 2, 4);
        answer("*A?x.b.a=0");
        answer("*A?0=x.b.a");
        answer("*A?x.b.b=x.b.b", 1, 2, 4);
        answer("*A?n=x.b.b", 2);
        answer("*A?x.b.b=x.b.b.b.b", 4);
        answer("*A?!x.b.a=x.b.a", 3);
        answer("*A?!x.b.a<100", 3);
        answer("*A?!x.b.b=n", 1, 3, 4);
        answer("*A?x.b.a<0|x.b.a>-1", 1, 2, 4);
        answer("*A?x.b.b.a=x.b.b.b.a", 4);
    }

    private static void emptySets() {
        DUE.sentence("this holds for one of the set's objects, as that variable (for none, if the path has no value)");
        answer("*A?Eyx.c:n=n", 2, 4);
        answer("*A?!Eyx.c:n=n", 1, 3);
        answer("*A?Eyx.c:x=n");
        answer("*A?Eyx.b.c:n=n", 1, 4);
        answer("*A?!Eyx.b.c:n=n", 2, 3);
        answer("*A?Eyx.b.b.c:n=n", 4);
        answer("*A?Eyx.c:y=x", 4);
        answer("*A?Eyx.c:y.b=n", 2, 4);
        answer("*A?Eyx.c:!y.b=n", 4);
        answer("*A?!Eyx.c:!y.b=n", 1, 2, 3);
        answer("*A?Eyx.c:y.a=7", 4);
        answer("*A?Eyx.c:Ezy.c:z=x", 4);
        answer("*A?Eyx.c:Ezy.c:!z=y", 4);
        answer("*A?Eyx.c:(y.a=5&y.b=n)", 2, 4);
        answer("*A?Eyx.c:y.a=7&Eyx.c:y.a=5", 4);
        answer("*A?Eyx.c:(y.a=7&y.a=5)");
        answer("*A?Eyx.c:Ezx.c:!y=z", 4);
        answer("*B?Eyx.e.g:n=n");
    }

    private static void largeSets() {
        DUE.sentence("this holds for one of the set's objects, as that variable");
        ObjectBase x = Bases.begun(Bases.withObjects(16, 16));
        x.join(1, 2, 1, true);
        x.put(16, 0, 9);
        x.commit();
        DUE.is("the set", x.get(1, 2), 16);
        answer(x, "*A?Eyx.c:y.a=9", 1);
        answer(x, "*A?Eyx.c:Ezx.c:(y.a=9&z=x)", 1);
        answer(x, "*A?Eyx.c:y.a=8");
        x.begin();
        x.join(1, 2, 16, false);
        x.join(2, 2, 16, true);
        x.commit();
        answer(x, "*A?Eyx.c:y.a=9", 2);
        answer(x, "*A?Eyx.c:Ezy.c:z.a=9", 1);
    }

    private static void orAndNot() {
        DUE.sentence("A FACTOR: `!` and a factor: that does not hold. Or a condition in brackets.");
        answer("*A?x.a=7|x.b=n", 2, 3);
        answer("*A?x.a=5&x.b=n", 3);
        answer("*A?x.a=7|x.a=5&x.b=n", 2, 3);
        answer("*A?x.b=n&x.a=5|x.a=7", 2, 3);
        answer("*A?(x.a=7|x.a=5)&x.b=n", 3);
        answer("*A?!x.a=7&x.b=n", 3);
        answer("*A?!(x.a=7&x.b=n)", 1, 2, 3, 4);
        answer("*A?!(x.a=7|x.b=n)", 1, 4);
        answer("*A?!!x.a=7", 2);
        answer("*A?!!!x.a=7", 1, 3, 4);
        answer("*A?!x.a=7|x.a=7", 1, 2, 3, 4);
        answer("*A?Eyx.c:n=n|x.b=n", 2, 3, 4);
        answer("*A?Eyx.c:n=n&x.b=n");
        answer("*A?" + "!".repeat(12) + "x.a=7", 2);
        answer("*A?" + "!".repeat(11) + "x.a=7", 1, 3, 4);
        answer("*A?" + "(".repeat(12) + "x.a=7" + ")".repeat(12), 2);
        answer("*A?" + "!(".repeat(6) + "x.a=7" + ")".repeat(6), 2);
        answer("*A?" + "x=n|".repeat(13) + "n=n", 1, 2, 3, 4);
        answer("*A?" + "n=n&".repeat(13) + "x=n");
    }

    /** What is looked at and what fits, with an index and without. */
    private static void plan(String text, int[] index, int looked, int fit) {
        ObjectBase x = base();
        DUE.is("index for " + text, x.index(index[0], index[1], index[2], index[3]), 0);
        DUE.is("ask of " + text, x.ask(Texts.prepare(x, text)), fit);
        DUE.is("look(8) of " + text, x.look(8), looked);
        ObjectBase y = base();
        DUE.is("ask without an index of " + text, y.ask(Texts.prepare(y, text)), fit);
        DUE.is("look(8) without an index of " + text, y.look(8), text.charAt(1) == 'B' ? 1 : 4);
    }

    private static final int[] OVER_A = {1, 0, -1, -1};
    private static final int[] OVER_B_A = {1, 1, 0, -1};
    private static final int[] OVER_B_B_A = {1, 1, 1, 0};

    private static void planOfOneToThreeFields() {
        DUE.sentence("a factor is that path, =, and a number (in this order, without brackets), only the objects that the index has with that number are LOOKED AT");
        plan("*A?x.a=5", OVER_A, 3, 3);
        plan("*A?x.a=7", OVER_A, 1, 1);
        plan("*A?x.a=6", OVER_A, 0, 0);
        plan("*A?x.b.a=5", OVER_B_A, 2, 2);
        plan("*A?x.b.b.a=5", OVER_B_B_A, 2, 2);
        plan("*A?x.b.a=5", OVER_A, 4, 2);
        plan("*A?x.b.a=5", OVER_B_B_A, 4, 2);
        plan("*A?x.b.b.a=5", OVER_B_A, 4, 2);
        plan("*A?x.b.b.a=5", OVER_A, 4, 2);
        plan("*A?x.a=5", OVER_B_A, 4, 3);
        plan("*A?x.a=5", OVER_B_B_A, 4, 3);
        plan("*A?x.b.b.b.a=5", OVER_B_B_A, 4, 1);
    }

    /** a and b numbers, c and d references to the class: 1.c is 2, 1.d is 3, and 2 and 3 refer to 1. */
    private static ObjectBase withLikeFields() {
        ObjectBase x = Bases.withClasses(1);
        x.field(1, 0, 0);
        x.field(1, 0, 0);
        x.field(1, 1, 1);
        x.field(1, 1, 1);
        x.begin();
        Bases.makeMany(x, 3);
        for (int id = 1; id <= 3; id++) {
            x.put(id, 0, 10 + id);
            x.put(id, 1, 10 + id);
            x.point(id, 2, id == 1 ? 2 : 1);
            x.point(id, 3, id == 1 ? 3 : 1);
        }
        x.name(0, 1);
        x.commit();
        return x;
    }

    private static void plansOfLikePaths() {
        DUE.sentence("of which a factor is that path, =, and a number");
        int[][] paths = {
            {0, -1, -1}, {1, -1, -1}, {2, 0, -1}, {2, 1, -1}, {3, 0, -1}, {3, 1, -1},
            {2, 2, 0}, {2, 2, 1}, {2, 3, 0}, {2, 3, 1}, {3, 2, 0}, {3, 2, 1}, {3, 3, 0}, {3, 3, 1},
        };
        for (int[] index : paths) {
            for (int[] path : paths) {
                StringBuilder text = new StringBuilder("*A?x");
                for (int f : path) {
                    text.append(f < 0 ? "" : "." + (char) ('a' + f));
                }
                ObjectBase x = withLikeFields();
                x.index(1, index[0], index[1], index[2]);
                String call = text + "=10 with an index over " + index[0] + ", " + index[1] + ", " + index[2];
                DUE.is("ask of " + call, x.ask(Texts.prepare(x, text + "=10")), 0);
                DUE.is("look(8) of " + call, x.look(8), path == index ? 0 : 3);
            }
        }
        plan("#A?x.a=7", OVER_A, 1, 1);
        ObjectBase x = base();
        x.index(1, 0, -1, -1);
        DUE.is("ask of a sum", x.ask(Texts.prepare(x, "+x.b.aA?x.a=7")), 1);
        DUE.is("look(8) of a sum", x.look(8), 1);
        DUE.is("sum()", x.sum(), 5);
    }

    private static void plansThatAreNone() {
        DUE.sentence("the condition is one part (no | but in brackets)");
        plan("*A", OVER_A, 4, 4);
        plan("*A?x.a=5|x.a=5", OVER_A, 4, 3);
        plan("*A?x.a=5|n=n", OVER_A, 4, 4);
        plan("*A?x.a=5&n=n|x=n", OVER_A, 4, 3);
        plan("*A?x=n|x.a=5", OVER_A, 4, 3);
        plan("*A?x.a=5&(n=n|x=n)", OVER_A, 3, 3);
        plan("*A?(n=n|x=n)&x.a=5", OVER_A, 3, 3);
        plan("*A?x.a=5&!(n=n|x=n)", OVER_A, 3, 0);
        DUE.sentence("a factor is that path, =, and a number (in this order, without brackets)");
        plan("*A?5=x.a", OVER_A, 4, 3);
        plan("*A?(x.a=5)", OVER_A, 4, 3);
        plan("*A?((x.a=5))", OVER_A, 4, 3);
        plan("*A?!x.a=5", OVER_A, 4, 1);
        plan("*A?!!x.a=5", OVER_A, 4, 3);
        plan("*A?x.a<6", OVER_A, 4, 3);
        plan("*A?x.a>4", OVER_A, 4, 4);
        plan("*A?x.a=x.a", OVER_A, 4, 4);
        plan("*A?5=5", OVER_A, 4, 4);
        plan("*A?n=n", OVER_A, 4, 4);
        plan("*A?Eyx.c:y.a=7", OVER_A, 4, 1);
        plan("*A?Eyx.c:x.a=7", OVER_A, 4, 1);
        plan("*A?Eyx.c:(y.a=7&x.a=5)", OVER_A, 4, 1);
        plan("*A?(x.a=5&n=n)", OVER_A, 4, 3);
        plan("*A?(x.a=5)&n=n", OVER_A, 4, 3);
        plan("*A?(5=x.a)&x.a=7", OVER_A, 1, 0);
    }

    private static void firstFactorCounts() {
        DUE.sentence("the first such factor counts, with the first such index; else all of the class are looked at");
        plan("*A?x.a=5&x.a=7", OVER_A, 3, 0);
        plan("*A?x.a=7&x.a=5", OVER_A, 1, 0);
        plan("*A?n=n&x.a=7&x.a=5", OVER_A, 1, 0);
        plan("*A?" + "n=n&".repeat(12) + "x.a=7", OVER_A, 1, 1);
        int[][] orders = {{0, 1, 2}, {2, 1, 0}, {1, 2, 0}};
        int[][] indexes = {OVER_A, OVER_B_A, OVER_B_B_A};
        String[] texts = {"*A?x.a=5&x.b.a=7", "*A?x.b.a=7&x.a=5", "*A?x.b.b.a=5&x.a=5&x.b.a=7", "*A?x.b=n&x.a=7&x.b.b.a=5"};
        int[] looked = {3, 1, 2, 1};
        int[] fit = {1, 1, 1, 0};
        for (int[] order : orders) {
            ObjectBase x = base();
            for (int i : order) {
                x.index(indexes[i][0], indexes[i][1], indexes[i][2], indexes[i][3]);
            }
            for (int i = 0; i < texts.length; i++) {
                DUE.is("ask of " + texts[i], x.ask(Texts.prepare(x, texts[i])), fit[i]);
                DUE.is("look(8) of " + texts[i], x.look(8), looked[i]);
            }
        }
        ObjectBase x = base();
        x.index(1, 0, -1, -1);
        x.index(1, 0, -1, -1);
        DUE.is("two indexes alike", x.ask(Texts.prepare(x, "*A?x.a=5")), 3);
        DUE.is("look(8)", x.look(8), 3);
    }

    private static void classesOfPlans() {
        DUE.sentence("if the question's class is that of an index");
        plan("*B?x.a=7", OVER_A, 1, 0);
        plan("*B?x.a=7", new int[] {2, 0, -1, -1}, 0, 0);
        plan("*B?x.a=5", new int[] {2, 0, -1, -1}, 1, 1);
        plan("*A?x.a=7", new int[] {2, 0, -1, -1}, 4, 1);
        ObjectBase x = base();
        x.index(2, 0, -1, -1);
        x.index(3, 5, -1, -1);
        x.index(1, 0, -1, -1);
        DUE.is("the third index is the first such one", x.ask(Texts.prepare(x, "*A?x.a=7")), 1);
        DUE.is("look(8)", x.look(8), 1);
    }

    private static void whatAnIndexHas() {
        DUE.sentence("An index knows for each object of its class that is reached the path's value, if it has one.");
        ObjectBase x = base();
        x.index(1, 1, 0, -1);
        int q = Texts.prepare(x, "*A?x.b.a=0");
        DUE.is("no value is not 0", x.ask(q), 0);
        DUE.is("look(8)", x.look(8), 0);
        x.begin();
        x.point(3, 1, 1);
        x.put(1, 0, 0);
        DUE.is("ask in a batch", x.ask(q), BAD);
        x.abort();
        DUE.is("ask behind an abort", x.ask(q), 0);
        x.begin();
        x.point(3, 1, 1);
        x.put(1, 0, 0);
        x.commit();
        DUE.is("ask behind a commit", x.ask(q), 1);
        DUE.is("look(8)", x.look(8), 1);
        DUE.is("hit(0)", x.hit(0), 3);
        x.begin();
        x.join(4, 2, 3, false);
        x.join(2, 2, 3, false);
        x.point(2, 1, 0);
        x.commit();
        DUE.is("what is not reached is not known", x.ask(q), 0);
        DUE.is("look(8)", x.look(8), 0);
        x.arm(2);
        x.begin();
        x.put(4, 0, 0);
        DUE.is("cut behind the mark", x.commit(), DOWN);
        x.recover();
        DUE.is("it follows recover()", x.ask(q), 1);
        DUE.is("hit(0)", x.hit(0), 4);
        x.arm(1);
        x.begin();
        x.put(4, 0, 1);
        DUE.is("cut in the log", x.commit(), DOWN);
        x.recover();
        DUE.is("it follows that", x.ask(q), 1);
        x.collect();
        DUE.is("and a collection", x.ask(q), 1);
        DUE.is("look(8)", x.look(8), 1);
    }

    private static void numbersOfPlans() {
        DUE.sentence("What is answered does not hang on that.");
        ObjectBase x = Bases.begun(Bases.withObjects(4, 4));
        x.put(1, 0, Integer.MIN_VALUE);
        x.put(2, 0, Integer.MAX_VALUE);
        x.put(3, 0, -7);
        x.commit();
        x.index(1, 0, -1, -1);
        String[] texts = {"-2147483648", "2147483647", "-0000000007", "-7", "-0", "0000000000", "7"};
        int[] ids = {1, 2, 3, 3, 4, 4, 0};
        for (int i = 0; i < texts.length; i++) {
            int q = Texts.prepare(x, "*A?x.a=" + texts[i]);
            DUE.is("ask of " + texts[i], x.ask(q), ids[i] == 0 ? 0 : 1);
            DUE.is("look(8) of " + texts[i], x.look(8), ids[i] == 0 ? 0 : 1);
            DUE.is("hit(0) of " + texts[i], x.hit(0), ids[i] == 0 ? BAD : ids[i]);
        }
        DUE.is("a question of before its index", indexBehindQuestion(), 1);
    }

    private static int indexBehindQuestion() {
        ObjectBase x = base();
        int q = Texts.prepare(x, "*A?x.a=7");
        x.index(1, 0, -1, -1);
        x.ask(q);
        return x.look(8);
    }
}
