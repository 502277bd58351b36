/**
 * Promises 22 to 27: every text of a few words of the language of questions, good or not, given to an
 * ObjectBase and to a Model.
 */
public final class EveryTextTest {
    private static final Due DUE = new Due("EveryTextTest");
    private static final int MOST_CALLS = 512;
    // A draft(0), eight pieces, prepare(), ask(), sum(), look() and three times hit().
    private static final int CALLS_FOR_A_TEXT = 16;

    private ObjectBase x;
    private Model m;
    private int calls;
    private int accepted;

    public static void main(String[] args) {
        enough("heads", 10, every("", "* # + x .a .b .c A B C ? n=n", 5));
        enough("operands", 100, every("#A?", "x y .a .b n 0 -1 = < & ! (n=n) Eyx.c:", 5));
        enough("conditions", 900, every("*A?", "n=n x.a=1 x.b.a=1 & | ! ( ) Eyx.c: y.a>0 x.b=n", 5));
        enough("nests", 200, every("*B?", "! ( ) & Eyx.c: Ezy.c: Eyx.b.c: x.d=n y.d.a=1 z=x", 5));
        enough("digits", 900, every("+x.aA?x.a", "1 0 - = < > 2147483647 8 9", 5));
        DUE.end();
    }

    private static int every(String head, String words, int most) {
        EveryTextTest test = new EveryTextTest();
        test.newBases();
        test.extend(head, words.split(" "), most);
        return test.accepted;
    }

    /** Texts of which hardly one is a question would prove little. */
    private static void enough(String texts, int least, int accepted) {
        DUE.yes(texts + ": " + accepted + " questions", accepted >= least);
    }

    private void extend(String text, String[] words, int left) {
        compare(text);
        for (int i = 0; i < words.length && left > 0; i++) {
            extend(text + words[i], words, left - 1);
        }
    }

    private void compare(String text) {
        if (m.questionCount() == 12 || calls + CALLS_FOR_A_TEXT > MOST_CALLS) {
            newBases();
        }
        same(text + ": draft(0)", x.draft(0), m.draft(0));
        for (int i = 0; i < text.length(); i += 8) {
            long s = Texts.packed(text.substring(i, Math.min(text.length(), i + 8)));
            same(text + ": draft", x.draft(s), m.draft(s));
        }
        int q = m.prepare();
        same(text + ": prepare", x.prepare(), q);
        if (q >= 0) {
            accepted++;
            same(text + ": ask", x.ask(q), m.ask(q));
            same(text + ": sum", x.sum(), m.sum());
            same(text + ": look(8)", x.look(8), m.look(8));
            for (int i = 0; i < 3; i++) {
                same(text + ": hit(" + i + ")", x.hit(i), m.hit(i));
            }
        }
    }

    private void same(String call, long got, long want) {
        calls++;
        DUE.is(call, got, want);
        if (got != want) {
            DUE.end();
        }
    }

    private void same(String call, boolean got, boolean want) {
        same(call, got ? 1 : 0, want ? 1 : 0);
    }

    private void newBases() {
        x = new ObjectBase();
        m = new Model();
        calls = 0;
        same("type", x.type(0), m.type(0));
        same("type", x.type(1), m.type(1));
        field(1, 0, 0);
        field(1, 1, 1);
        field(1, 2, 2);
        field(2, 1, 2);
        same("index", x.index(1, 0, -1, -1), m.index(1, 0, -1, -1));
        same("index", x.index(1, 1, 0, -1), m.index(1, 1, 0, -1));
        same("begin", x.begin(), m.begin());
        objects();
        same("commit", x.commit(), m.commit());
    }

    private void field(int c, int kind, int target) {
        same("field", x.field(c, kind, target), m.field(c, kind, target));
    }

    /** As and Bs in turn, with numbers -1 to 2, some references to none, some sets that are empty. */
    private void objects() {
        int[] numbers = {0, 1, -1, 1, 0, 1, 2};
        int[] references = {2, 3, 0, 5, 1, 6, 0};
        for (int id = 1; id <= 7; id++) {
            same("make", x.make(2 - id % 2), m.make(2 - id % 2));
        }
        for (int id = 1; id <= 7; id++) {
            same("put", x.put(id, 0, numbers[id - 1]), m.put(id, 0, numbers[id - 1]));
            same("point", x.point(id, 1, references[id - 1]), m.point(id, 1, references[id - 1]));
        }
        int[][] members = {{1, 2}, {1, 4}, {2, 4}, {4, 6}, {5, 6}, {6, 2}};
        for (int[] pair : members) {
            same("join", x.join(pair[0], 2, pair[1], true), m.join(pair[0], 2, pair[1], true));
        }
        same("point", x.point(2, 3, 4), m.point(2, 3, 4));
        same("point", x.point(4, 3, 4), m.point(4, 3, 4));
        int[] named = {1, 4, 6, 5};
        for (int n = 0; n < 4; n++) {
            same("name", x.name(n, named[n]), m.name(n, named[n]));
        }
    }
}
