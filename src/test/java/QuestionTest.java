/** Promises 22 to 26: draft, prepare, ask, sum, hit, with the plans that look(8) tells of. */
public final class QuestionTest {
    private static final Due DUE = new Due("QuestionTest");

    public static void main(String[] args) {
        draft();
        draftWhileDown();
        goodTexts();
        badTexts();
        nests();
        prepareRoom();
        prepareTimes();
        answers();
        sums();
        latest();
        askRefused();
        plans();
        indexAfterQuestion();
        indexFollowsChanges();
        classesBelowAreAsked();
        DUE.end();
    }

    /**
     * A (1): a number, b -> A, c set of A; B (2) extends A: d number, e -> C; C (3): f number,
     * g set of B, h -> A.
     */
    private static ObjectBase schema() {
        ObjectBase x = new ObjectBase();
        x.type(0);
        x.type(1);
        x.type(0);
        x.field(1, 0, 0);
        x.field(1, 1, 1);
        x.field(1, 2, 1);
        x.field(2, 0, 0);
        x.field(2, 1, 3);
        x.field(3, 0, 0);
        x.field(3, 2, 2);
        x.field(3, 1, 1);
        return x;
    }

    /**
     * 1 A: a 5, b 2, c {1, 2, 3}; 2 B: a 7, d -3, e 4, c {1}; 3 A: a 5; 4 C: f 10, g {2}, h 1;
     * 5 A: a -2147483648, not reached; 6 B: a 5, b 1, d 0, c {}.
     */
    private static ObjectBase base() {
        ObjectBase x = schema();
        x.begin();
        int[] classes = {1, 2, 1, 3, 1, 2};
        for (int c : classes) {
            x.make(c);
        }
        int[][] numbers = {{1, 0, 5}, {2, 0, 7}, {2, 3, -3}, {3, 0, 5}, {4, 5, 10}, {5, 0, Integer.MIN_VALUE}, {6, 0, 5}};
        for (int[] n : numbers) {
            x.put(n[0], n[1], n[2]);
        }
        x.point(1, 1, 2);
        x.point(2, 4, 4);
        x.point(4, 7, 1);
        x.point(6, 1, 1);
        int[][] members = {{1, 2, 1}, {1, 2, 2}, {1, 2, 3}, {2, 2, 1}, {4, 6, 2}};
        for (int[] m : members) {
            x.join(m[0], m[1], m[2], true);
        }
        x.name(0, 1);
        x.name(1, 6);
        x.commit();
        return x;
    }

    private static void draft() {
        ObjectBase x = schema();
        DUE.no("the lowest byte is 0", x.draft(0x4100L));
        DUE.no("a space", x.draft(Texts.packed("# A")));
        DUE.no("a byte 127", x.draft(0x7f2aL));
        DUE.no("a byte 255", x.draft(-1L));
        DUE.no("a byte 32 at the end", x.draft(Texts.packed("#A?x.a= ")));
        DUE.no("a highest byte over 127", x.draft(Texts.packed("#A?x.a=") | 0x80L << 56));
        DUE.is("nothing was drafted", x.prepare(), ObjectBase.BAD);
        DUE.yes("what is behind a zero byte does not matter", x.draft(Texts.packed("#A") | 0xff20L << 32));
        DUE.is("it reads", x.prepare(), 0);
        DUE.is("the draft stays", x.prepare(), 1);
        DUE.yes("more behind it", x.draft(Texts.packed("?n=n")));
        DUE.is("it reads too", x.prepare(), 2);
        DUE.no("refused", x.draft(Texts.packed("&n= ")));
        DUE.is("what is refused changes nothing", x.prepare(), 3);
        DUE.yes("33 and 126 are characters", x.draft(Texts.packed("!~")));
        DUE.is("but it reads no more", x.prepare(), ObjectBase.BAD);
        DUE.yes("empty", x.draft(0));
        DUE.is("an empty draft", x.prepare(), ObjectBase.BAD);
        Texts.draft(x, "#A?x.a=5");
        DUE.is("a shorter draft behind a longer one", Texts.prepare(x, "#"), ObjectBase.BAD);
        DUE.is("and one that ends in a path", Texts.prepare(x, "+x.a"), ObjectBase.BAD);
        draftOfSixty(x);
    }

    private static void draftOfSixty(ObjectBase x) {
        DUE.yes("56 characters", Texts.draft(x, "#A?n=n&n" + "=n&n=n&n".repeat(6)));
        DUE.no("five more", x.draft(Texts.packed("=n&n=")));
        DUE.yes("four more", x.draft(Texts.packed("=n&n")));
        DUE.no("one more than 60", x.draft(Texts.packed("n")));
        DUE.is("60 characters that are no question", x.prepare(), ObjectBase.BAD);
        DUE.yes("60 characters", Texts.draft(x, "#A?0=0" + "&n=n&n=n".repeat(6) + "&00=00"));
        DUE.no("the 61st", x.draft(Texts.packed("0")));
        DUE.is("60 characters read", x.prepare(), 4);
    }

    private static void draftWhileDown() {
        ObjectBase x = schema();
        Texts.draft(x, "#A");
        x.crash();
        DUE.no("draft while down", x.draft(Texts.packed("?")));
        DUE.no("draft(0) while down", x.draft(0));
        DUE.is("prepare() while down", x.prepare(), ObjectBase.DOWN);
        x.recover();
        DUE.is("the draft stayed", x.prepare(), 0);
    }

    private static void goodTexts() {
        String[] texts = {
            "*A", "#B", "*C", "+x.aA", "+x.b.aA", "+x.e.fB", "+x.e.h.b.b.aB", "+x.aB", "+x.dB?x.a=1",
            "*A?n=n", "*A?n=x", "*A?x=n", "*A?x=x", "*A?x.b=x", "*B?x.e=x.b", "*B?x=x.e.h", "*A?1=1", "*A?1<2",
            "*A?x.a=-0", "*A?x.a=987654321", "*A?x.a=0000000005", "*A?x.a>-2147483648", "*A?x.a<2147483647", "*A?-1=x.a", "*A?5>x.a",
            "*A?x.a=x.b.a", "*B?x.d<x.e.f", "*A?!x.a=5", "*A?!!x.a=5", "*A?(x.a=5)", "*A?((n=n)|(x=n))&n=n",
            "*A?x.a=1|x.a=2|x.a=3", "*A?x.a=1&x.a=2|x.a=3&x.a=4", "*A?Eyx.c:y.a=5", "*A?Ezx.c:z=n",
            "*A?Eyx.c:Ezy.c:z=y", "*A?Ezx.c:Eyz.c:(z=y&x=y)", "*A?Eyx.c:y=x&Eyx.c:y.b=n", "*A?Eyx.b.c:n=n",
            "*C?Eyx.g:y.d=1", "*C?Eyx.g:y.a=1", "*C?Eyx.g:y.e.f=1", "*B?Eyx.e.g:Ezy.c:z.b.b.b=x",
            "*A?(Eyx.c:n=n)|Eyx.c:n=n", "*A?!Eyx.c:!y.a=1", "*A?Eyx.c:Ezx.c:y=z",
        };
        for (String text : texts) {
            DUE.is("prepare() of " + text, Texts.prepare(schema(), text), 0);
        }
    }

    private static void badTexts() {
        String[] texts = {
            "*", "#", "+", "A", "*D", "*F", "*a", "*@", "**A", "*A*", "*AA", "*A?", "*?n=n", "+A", "+aA", "+x", "+x.a", "+xA",
            "+x.bA", "+x.cA", "+x.dA", "+x.a.aA", "+x.b.dA", "+y.aA", "+.aA", "+x.A", "+x.aA?", "+xaA", "+5A", "+nA",
            "+x.a", "+x.", "+x.aD", "*x.aA", "+x.aa", "+x..aA", "+x.iA", "+x.fA",
            "*A?x", "*A?x.a", "*A?x.a=", "*A?=5", "*A?x.a==5", "*A?x.a=5)", "*A?(x.a=5", "*A?()", "*A?x.a=5&", "*A?x.a=5|",
            "*A?&x.a=5", "*A?|n=n", "*A?n=n||n=n", "*A?n=n&&n=n", "*A?n", "*A?!", "*A?(n)", "*A?n=nn",
            "*A?n<n", "*A?x<x", "*A?x.b>n", "*A?x.a=n", "*A?n=5", "*A?x=5", "*A?5=x.b", "*A?x.c=1", "*A?x.c=n", "*A?x.c=x.c",
            "*A?x.a=x.c", "*A?x.c<5", "*A?5<x.b", "*A?x.d=5", "*A?x.f=5", "*A?x.i=5", "*A?x.A=5", "*A?x.=5", "*A?x.a.a=5",
            "*A?x.b.d=1", "*A?x.c.a=5", "*A?x.1=5", "*A?xa=5", "*A?x.aa=5", "*C?x.a=1", "*B?x.e.a=1", "*C?x.h.d=1",
            "*A?y=n", "*A?z=x", "*A?w=n", "*A?y.a=1", "*A?Eyx.c:z.a=1", "*A?Eyx.c:n=n&y=n", "*A?(Eyx.c:n=n)&y=y",
            "*A?Exx.c:n=n", "*A?Eyy.c:n=n", "*A?Eyx.c:Eyx.c:n=n", "*A?Eyx.c:Eyy.c:n=n", "*A?Eyx.c:Ezz.c:n=n", "*A?Ewx.c:n=n",
            "*A?Eyx:n=n", "*A?Eyx.b:n=n", "*A?Eyx.a:n=n", "*A?Eyn:n=n", "*A?Ey5:n=n", "*A?Eyx.c", "*A?Eyx.c:", "*A?Eyx.cn=n",
            "*A?Ex.c:n=n", "*A?Eyx.c:y", "*A?Eyx.c:y.d=1", "*A?E", "*A?Ey", "*A?Eyx.c;n=n", "*A?Eyx.g:n=n", "*C?Eyx.g.c:n=n",
            "*A?x.a=2147483648", "*A?x.a=-2147483649", "*A?x.a=00000000005", "*A?x.a=-00000000005", "*A?x.a=-", "*A?x.a=--5",
            "*A?x.a=+5", "*A?x.a=5-", "*A?x.a=9999999999", "*A?x.a=5.", "*A?x.a=1e3", "*A?-x.a=1", "*A?x.a<=5", "*A?x.a=>5",
            "*A?x.a!5", "*A?n.b=n", "*A?{=n", "*A?{.a=1", "*A?E{x.c:n=n", "+{.aA", "*A?x.~=1", "*A?x.`=1", "*A?5.a=1", "*A?N=n", "*A?x=n?n=n", "#A,", "*A?!(n=n", "*A?(n=n))", "*A?)n=n(",
        };
        for (String text : texts) {
            DUE.is("prepare() of " + text, Texts.prepare(schema(), text), ObjectBase.BAD);
        }
    }

    private static void nests() {
        for (int deep = 11; deep <= 14; deep++) {
            int want = deep <= 12 ? 0 : ObjectBase.BAD;
            String nots = "#A?" + "!".repeat(deep) + "n=n";
            DUE.is(nots, Texts.prepare(schema(), nots), want);
            String brackets = "#A?" + "(".repeat(deep) + "n=n" + ")".repeat(deep);
            DUE.is(brackets, Texts.prepare(schema(), brackets), want);
            String some = "#A?" + "!".repeat(deep - 3) + "(Eyx.c:Ezy.c:z=z)";
            DUE.is(some, Texts.prepare(schema(), some), want);
        }
        ObjectBase x = base();
        DUE.is("12 deep", x.ask(Texts.prepare(x, "#A?" + "(".repeat(12) + "x.a=5" + ")".repeat(12))), 3);
        DUE.is("12 nots", x.ask(Texts.prepare(x, "#A?" + "!".repeat(12) + "x.a=5")), 3);
        DUE.is("11 nots", x.ask(Texts.prepare(x, "#A?" + "!".repeat(11) + "x.a=5")), 1);
        String side = "#A?" + "(".repeat(12) + "n=n" + ")".repeat(12) + "&" + "!".repeat(12) + "n=n";
        DUE.is("side by side", x.ask(Texts.prepare(x, side)), 4);
    }

    private static void prepareRoom() {
        ObjectBase x = schema();
        for (int q = 0; q < 12; q++) {
            DUE.is("question " + q, Texts.prepare(x, "#A"), q);
        }
        DUE.is("a 13th", x.prepare(), ObjectBase.ROOM);
        DUE.is("a 13th again", Texts.prepare(x, "*B?x.d=1"), ObjectBase.ROOM);
        DUE.is("a 13th that is none", Texts.prepare(x, "*B?x.f=1"), ObjectBase.BAD);
        DUE.is("it is not there", x.ask(12), ObjectBase.BAD);
        DUE.is("the 12th is", x.ask(11), 0);
        x.crash();
        DUE.is("a 13th while down", x.prepare(), ObjectBase.DOWN);
    }

    private static void prepareTimes() {
        ObjectBase x = new ObjectBase();
        DUE.is("no class yet", Texts.prepare(x, "#A"), ObjectBase.BAD);
        x.type(0);
        DUE.is("the class", x.prepare(), 0);
        DUE.is("no field yet", Texts.prepare(x, "#A?x.a=3"), ObjectBase.BAD);
        x.field(1, 0, 0);
        DUE.is("the field", x.prepare(), 1);
        x.begin();
        DUE.is("in a batch", Texts.prepare(x, "*A"), 2);
    }

    private static void hits(ObjectBase x, String text, int... ids) {
        DUE.is("ask of " + text, x.ask(Texts.prepare(x, text)), ids.length);
        for (int i = 0; i < ids.length; i++) {
            DUE.is("hit(" + i + ") of " + text, x.hit(i), ids[i]);
        }
        DUE.is("hit behind the last of " + text, x.hit(ids.length), ObjectBase.BAD);
        DUE.is("hit(-1) of " + text, x.hit(-1), ObjectBase.BAD);
        DUE.is("sum() of " + text, x.sum(), ids.length);
    }

    private static void answers() {
        hits(base(), "*A", 1, 2, 3, 6);
        hits(base(), "*B", 2, 6);
        hits(base(), "*C", 4);
        hits(base(), "*A?x.a=5", 1, 3, 6);
        hits(base(), "*A?!x.a=5", 2);
        hits(base(), "*A?x.a<6", 1, 3, 6);
        hits(base(), "*A?6<x.a", 2);
        hits(base(), "*A?x.a>7");
        hits(base(), "*A?x.a>5", 2);
        hits(base(), "*A?x.b=n", 2, 3);
        hits(base(), "*A?n=x.b", 2, 3);
        hits(base(), "*A?x.b.b=n", 1);
        hits(base(), "*A?!x.b.b=n", 2, 3, 6);
        hits(base(), "*A?x.b.a=x.a", 6);
        hits(base(), "*A?x.b.a<100", 1, 6);
        hits(base(), "*A?!x.b.a<100", 2, 3);
        hits(base(), "*A?x.b.a=x.b.a", 1, 6);
        hits(base(), "*A?x.b=x.b", 1, 2, 3, 6);
        hits(base(), "*A?x.b.b=x.b.b", 1, 6);
        hits(base(), "*A?x.b=x.b.b.b");
        hits(base(), "*A?x=x", 1, 2, 3, 6);
        hits(base(), "*A?x=n");
        hits(base(), "*A?n=n", 1, 2, 3, 6);
        hits(base(), "*A?1=2");
        hits(base(), "*A?-1<0", 1, 2, 3, 6);
        hits(base(), "*A?x.a=5&x.b=n|x.a=7", 2, 3);
        hits(base(), "*A?x.a=7|x.a=5&x.b=n", 2, 3);
        hits(base(), "*A?x.a=5&(x.b=n|x.a=7)", 3);
        hits(base(), "*A?!(x.a=5&x.b=n)", 1, 2, 6);
        hits(base(), "*A?!x.a=5|x.b=n", 2, 3);
        hits(base(), "*A?Eyx.c:y=x", 1);
        hits(base(), "*A?Eyx.c:y.a=5", 1, 2);
        hits(base(), "*A?!Eyx.c:y.a=5", 3, 6);
        hits(base(), "*A?Eyx.c:!y.a=5", 1);
        hits(base(), "*A?Eyx.b.c:y.a=5", 1, 6);
        hits(base(), "*A?!Eyx.b.c:n=n", 2, 3);
        hits(base(), "*A?Eyx.c:Ezy.c:z=x", 1, 2);
        hits(base(), "*A?Eyx.c:Ezy.c:(z=x&!y=x)", 1, 2);
        hits(base(), "*A?Eyx.c:Ezx.c:!y=z", 1);
        hits(base(), "*A?Eyx.c:y.b=n&Eyx.c:y.a=7", 1);
        hits(base(), "*B?x.e.f=10", 2);
        hits(base(), "*B?x.e.h=x");
        hits(base(), "*B?x.e.h.b=x", 2);
        hits(base(), "*B?Eyx.e.g:y=x", 2);
        hits(base(), "*C?Eyx.g:(y.d=-3&y.e=x)", 4);
        hits(base(), "*C?x.h.b.a=7", 4);
        hits(base(), "*C?x.h=x");
        hits(base(), "*B?x.d=-3", 2);
        hits(base(), "*B?x.d<0", 2);
        hits(base(), "*B?x.d=-000", 6);
        hits(base(), "*A?x.a=-2147483648");
    }

    private static void total(ObjectBase x, String text, int fit, long sum) {
        DUE.is("ask of " + text, x.ask(Texts.prepare(x, text)), fit);
        DUE.is("sum() of " + text, x.sum(), sum);
        DUE.is("hit(0) of " + text, x.hit(0), ObjectBase.BAD);
    }

    private static void sums() {
        total(base(), "#A", 4, 4);
        total(base(), "#A?x.a=5", 3, 3);
        total(base(), "#A?x=n", 0, 0);
        total(base(), "+x.aA", 4, 22);
        total(base(), "+x.aB", 2, 12);
        total(base(), "+x.dB", 2, -3);
        total(base(), "+x.b.aA", 4, 12);
        total(base(), "+x.b.aA?x.b=n", 2, 0);
        total(base(), "+x.b.b.aA?x.a=5", 3, 7);
        total(base(), "+x.e.fB", 2, 10);
        total(base(), "+x.e.h.aB?x.d<0", 1, 5);
        ObjectBase x = schema();
        x.begin();
        for (int id = 1; id <= 4; id++) {
            x.make(1);
            x.put(id, 0, Integer.MAX_VALUE);
            x.name(id - 1, id);
        }
        x.commit();
        total(x, "+x.aA", 4, 4L * Integer.MAX_VALUE);
        x.begin();
        for (int id = 1; id <= 4; id++) {
            x.put(id, 0, Integer.MIN_VALUE);
        }
        x.commit();
        total(x, "+x.aA", 4, 4L * Integer.MIN_VALUE);
    }

    private static void latest() {
        ObjectBase x = base();
        int all = Texts.prepare(x, "*A?x.a=5");
        int count = Texts.prepare(x, "#A");
        DUE.is("ask", x.ask(all), 3);
        x.begin();
        x.put(1, 0, 6);
        DUE.is("hit(0) in a batch", x.hit(0), 1);
        DUE.is("sum() in a batch", x.sum(), 3);
        DUE.is("ask in a batch", x.ask(all), ObjectBase.BAD);
        x.name(0, 0);
        x.name(1, 0);
        x.commit();
        x.collect();
        DUE.is("hit(2), though it is gone", x.hit(2), 6);
        DUE.is("sum()", x.sum(), 3);
        DUE.is("look(8)", x.look(8), 4);
        DUE.is("ask(99)", x.ask(99), ObjectBase.BAD);
        DUE.is("hit(2) behind one that was refused", x.hit(2), 6);
        DUE.is("ask", x.ask(count), 0);
        DUE.is("hit(0)", x.hit(0), ObjectBase.BAD);
        DUE.is("look(8) of none", x.look(8), 0);
        DUE.is("sum() of none", x.sum(), 0);
    }

    private static void askRefused() {
        ObjectBase x = base();
        DUE.is("ask(0)", x.ask(0), ObjectBase.BAD);
        Texts.prepare(x, "*A");
        DUE.is("ask(1)", x.ask(1), ObjectBase.BAD);
        DUE.is("ask(-1)", x.ask(-1), ObjectBase.BAD);
        DUE.is("ask(0) there", x.ask(0), 4);
        x.begin();
        DUE.is("ask(0) in a batch", x.ask(0), ObjectBase.BAD);
        x.crash();
        DUE.is("ask(0) while down", x.ask(0), ObjectBase.DOWN);
        DUE.is("ask(9) while down", x.ask(9), ObjectBase.DOWN);
    }

    private static void plan(String text, int fit, int looked) {
        ObjectBase x = base();
        DUE.is("index of A", x.index(1, 1, 0, -1), 0);
        DUE.is("index of B", x.index(2, 4, 5, -1), 1);
        DUE.is("index of A too", x.index(1, 0, -1, -1), 2);
        DUE.is("ask of " + text, x.ask(Texts.prepare(x, text)), fit);
        DUE.is("look(8) of " + text, x.look(8), looked);
        ObjectBase y = base();
        DUE.is("ask without indexes of " + text, y.ask(Texts.prepare(y, text)), fit);
        DUE.is("look(8) without indexes of " + text, y.look(8), text.charAt(1) == 'A' || text.endsWith("A") ? 4 : 2);
    }

    private static void plans() {
        plan("*A", 4, 4);
        plan("*A?x.a=5", 3, 3);
        plan("#A?x.a=005", 3, 3);
        plan("*A?x.a=8", 0, 0);
        plan("*A?x.a=5&x.b=n", 1, 3);
        plan("*A?x.b=n&x.a=5", 1, 3);
        plan("*A?x.a=5&x.b.a=7", 1, 3);
        plan("*A?x.b.a=7&x.a=5", 1, 1);
        plan("*A?x.b.a=5", 1, 1);
        plan("*A?5=x.a", 3, 4);
        plan("*A?(x.a=5)", 3, 4);
        plan("*A?(x.a=5)&x.a=7", 0, 1);
        plan("*A?!x.a=5", 1, 4);
        plan("*A?!x.a=5&x.a=7", 1, 1);
        plan("*A?x.a=5|x.a=7", 4, 4);
        plan("*A?x.a=5&x.b=n|x.a=5", 3, 4);
        plan("*A?x.a=5&(x.b=n|x.a=5)", 3, 3);
        plan("*A?x.a<6", 3, 4);
        plan("*A?x.a>5", 1, 4);
        plan("*A?x.a=x.a", 4, 4);
        plan("*A?x.b.b.a=7", 1, 4);
        plan("*A?Eyx.c:y.a=5", 2, 4);
        plan("*A?Eyx.c:y.a=5&x.a=7", 1, 1);
        plan("*A?1=1&x.a=7", 1, 1);
        plan("*A?x.a=-7", 0, 0);
        plan("*B?x.a=5", 1, 2);
        plan("*B?x.e.f=10", 1, 1);
        plan("*B?x.e.f=10&x.a=5", 0, 1);
        plan("*B?x.b.a=5", 1, 2);
    }

    private static void indexAfterQuestion() {
        ObjectBase x = base();
        int q = Texts.prepare(x, "*A?x.b.b.a=7");
        DUE.is("ask", x.ask(q), 1);
        DUE.is("look(8) without an index", x.look(8), 4);
        DUE.is("index", x.index(1, 1, 1, 0), 0);
        DUE.is("ask again", x.ask(q), 1);
        DUE.is("look(8) with the index", x.look(8), 1);
        DUE.is("hit(0)", x.hit(0), 6);
    }

    private static void indexFollowsChanges() {
        ObjectBase x = base();
        x.index(1, 1, 0, -1);
        int q = Texts.prepare(x, "*A?x.b.a=7");
        DUE.is("ask", x.ask(q), 1);
        x.begin();
        x.put(2, 0, 8);
        x.put(1, 0, 7);
        x.point(3, 1, 6);
        x.put(6, 0, 7);
        x.commit();
        DUE.is("ask after a commit", x.ask(q), 2);
        DUE.is("hit(0)", x.hit(0), 3);
        DUE.is("hit(1)", x.hit(1), 6);
        DUE.is("look(8)", x.look(8), 2);
        x.begin();
        x.join(1, 2, 3, false);
        x.abort();
        DUE.is("ask after an abort", x.ask(q), 2);
        x.begin();
        x.join(1, 2, 3, false);
        x.commit();
        DUE.is("one is not reached any more", x.ask(q), 1);
        DUE.is("look(8) then", x.look(8), 1);
        x.arm(2);
        x.begin();
        x.put(1, 0, 9);
        DUE.is("cut behind the mark", x.commit(), ObjectBase.DOWN);
        DUE.is("recover()", x.recover(), 1);
        DUE.is("the index follows that", x.ask(q), 0);
    }

    private static void classesBelowAreAsked() {
        ObjectBase x = new ObjectBase();
        x.type(0);
        x.type(1);
        x.type(2);
        x.type(2);
        x.type(0);
        x.field(3, 0, 0);
        x.begin();
        for (int c = 1; c <= 5; c++) {
            x.make(c);
        }
        x.name(0, 1);
        x.name(1, 3);
        x.name(2, 4);
        x.name(3, 5);
        x.commit();
        String[] classes = {"A", "B", "C", "D", "E"};
        int[] want = {3, 2, 1, 1, 1};
        for (int i = 0; i < 5; i++) {
            DUE.is("how many of " + classes[i], x.ask(Texts.prepare(x, "#" + classes[i])), want[i]);
        }
        DUE.is("a question of class E with E in it", Texts.prepare(x, "#E?n=n"), 5);
    }
}
