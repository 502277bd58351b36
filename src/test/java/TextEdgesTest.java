import java.util.Arrays;
import java.util.Set;
import java.util.TreeSet;

/** The edges of promises 22 and 23, draft and prepare, and of what the terms tell of the text of a question. */
public final class TextEdgesTest {
    private static final Due DUE = new Due("TextEdgesTest");
    private static final int BAD = ObjectBase.BAD;
    private static final int ROOM = ObjectBase.ROOM;
    private static final int DOWN = ObjectBase.DOWN;

    /** 60 characters that are a question of class A. */
    private static final String SIXTY = "#A?" + "n=n&".repeat(13) + "00=00";

    public static void main(String[] args) {
        piecesOfADraft();
        whatIsBehindAZeroByte();
        emptyDraft();
        lowestByteZero();
        charactersOfADraft();
        sixtyCharacters();
        draftWhileDownOrInABatch();
        numbersOfQuestions();
        twelveQuestions();
        theDraftStays();
        prepareRefused();
        nothingIsLeftOfTheRefused();
        modesAndClasses();
        classesThatAreThere();
        fieldsThatAreThere();
        endsOfTexts();
        partsAndFactors();
        nests();
        digits();
        ints();
        operands();
        variables();
        scopes();
        pathsToSets();
        pathsOfFields();
        longPaths();
        pathsOfSums();
        DUE.end();
    }

    private static void good(String text) {
        DUE.is("prepare() of " + text, Texts.prepare(Bases.schema(), text), 0);
    }

    private static void bad(String text) {
        DUE.is("prepare() of " + text, Texts.prepare(Bases.schema(), text), BAD);
    }

    private static void piecesOfADraft() {
        DUE.sentence("Puts up to eight characters behind the DRAFT (none at first): the bytes of s, the lowest first, up to the first zero byte");
        String text = "*A?x.a=5&x.b.a=-0";
        for (int size = 1; size <= 8; size++) {
            ObjectBase x = Bases.small();
            x.draft(0);
            for (int i = 0; i < text.length(); i += size) {
                String piece = text.substring(i, Math.min(text.length(), i + size));
                DUE.yes("draft of " + piece, x.draft(Texts.packed(piece)));
            }
            DUE.is("prepare() of pieces of " + size, x.prepare(), 2);
            DUE.is("ask(2)", x.ask(2), 1);
            DUE.is("hit(0)", x.hit(0), 1);
        }
    }

    private static void whatIsBehindAZeroByte() {
        DUE.sentence("up to the first zero byte (what is behind that does not matter)");
        long[] behind = {-1L, 0x2020202020202020L, 0x7f7f7f7f7f7f7f7fL, 0x4141414141414141L, 0x8000000000000000L};
        for (int count = 1; count <= 7; count++) {
            for (long rest : behind) {
                long tail = count == 7 ? 0 : rest << (8 * (count + 1));
                ObjectBase x = Bases.schema();
                Texts.draft(x, "#A?0=0000".substring(0, 9 - count));
                DUE.yes(count + " and more behind a zero", x.draft(Texts.packed("#A?0=0000".substring(9 - count)) | tail));
                DUE.is("prepare()", x.prepare(), 0);
                DUE.yes("draft of &n=n", x.draft(Texts.packed("&n=n")));
                DUE.is("prepare()", x.prepare(), 1);
            }
        }
        ObjectBase x = Bases.schema();
        Texts.draft(x, SIXTY.substring(0, 59));
        DUE.yes("the sixtieth with more behind a zero", x.draft(Texts.packed("0") | 0x4141414141410000L));
        DUE.is("prepare()", x.prepare(), 0);
    }

    private static void emptyDraft() {
        DUE.sentence("s = 0 makes the draft empty");
        ObjectBase x = Bases.schema();
        DUE.yes("draft(0) of an empty one", x.draft(0));
        DUE.is("prepare()", x.prepare(), BAD);
        DUE.yes("60 characters", Texts.draft(x, SIXTY));
        DUE.yes("draft(0) of a full one", x.draft(0));
        DUE.is("prepare()", x.prepare(), BAD);
        DUE.yes("draft of *A", x.draft(Texts.packed("*A")));
        DUE.is("nothing of before is there", x.prepare(), 0);
        DUE.yes("60 again", Texts.draft(x, SIXTY));
        DUE.is("prepare()", x.prepare(), 1);
    }

    private static void lowestByteZero() {
        DUE.sentence("False, refused, if the lowest byte is 0 and s is not");
        long[] wrong = {0x100L, 0x4100L, 0x4123412341234100L, -256L, Long.MIN_VALUE, 0x2100000000000000L, 1L << 32, 0xff00L};
        for (long s : wrong) {
            Twins.refused(DUE, "draft(" + s + ")", Bases::small, x -> x.draft(s));
        }
    }

    private static void charactersOfADraft() {
        DUE.sentence("one of them is not 33 .. 126");
        int[] wrong = {1, 9, 10, 31, 32, 127, 128, 160, 161, 254, 255};
        for (int place = 0; place < 8; place++) {
            long others = Texts.packed("~!~!~!~!") & ~(255L << (8 * place));
            String at = " at place " + place;
            for (int c = 33; c <= 126; c++) {
                DUE.yes("character " + c + at, Bases.schema().draft(others | (long) c << (8 * place)));
            }
            for (int c : wrong) {
                long s = others | (long) c << (8 * place);
                Twins.refused(DUE, "character " + c + at, Bases::small, x -> x.draft(s));
            }
            for (int c : wrong) {
                long s = (others | (long) c << (8 * place)) & (-1L >>> (56 - 8 * place));
                Twins.refused(DUE, "character " + c + " last" + at, Bases::small, x -> x.draft(s));
            }
        }
        Twins.refused(DUE, "draft(-1)", Bases::small, x -> x.draft(-1));
        Twins.refused(DUE, "draft(Long.MAX_VALUE)", Bases::small, x -> x.draft(Long.MAX_VALUE));
    }

    private static ObjectBase withDraft(int length) {
        ObjectBase x = Bases.schema();
        Texts.draft(x, SIXTY.substring(0, length));
        return x;
    }

    private static void sixtyCharacters() {
        DUE.sentence("or it would have more than 60");
        for (int length = 52; length <= 60; length++) {
            int before = length;
            for (int size = 1; size <= 8; size++) {
                String call = size + " characters behind " + length;
                if (length + size > 60) {
                    long s = Texts.packed("&n=n&n=n".substring(0, size));
                    Twins.refused(DUE, call, () -> withDraft(before), x -> x.draft(s));
                } else {
                    ObjectBase x = withDraft(length);
                    DUE.yes(call, x.draft(Texts.packed(SIXTY.substring(length, length + size))));
                    boolean rest = length + size == 60 || x.draft(Texts.packed(SIXTY.substring(length + size)));
                    DUE.yes("the rest", rest);
                    DUE.is("prepare() of all", x.prepare(), 0);
                }
            }
        }
        DUE.sentence("At most 60 characters, no spaces");
        DUE.is("the length of it", SIXTY.length(), 60);
        good(SIXTY);
        DUE.no("a space", Bases.schema().draft(Texts.packed("# A")));
    }

    private static void draftWhileDownOrInABatch() {
        DUE.sentence("(Also while the base is down; the draft and the questions stay then, too.)");
        long[] all = {0, Texts.packed("?n=n"), Texts.packed("#"), 0x100L, -1L};
        for (long s : all) {
            Twins.refused(DUE, "draft(" + s + ") while down", () -> Bases.crashed(Bases.inBatch()), x -> x.draft(s));
            Twins.refused(DUE, "draft(" + s + ") with a mark in the log", () -> Bases.cutCommit(4), x -> x.draft(s));
        }
        ObjectBase x = Bases.schema();
        Texts.prepare(x, "#C");
        Texts.draft(x, "*A?x.a");
        x.crash();
        DUE.no("draft while down", x.draft(Texts.packed("<")));
        DUE.no("draft(0) while down", x.draft(0));
        x.recover();
        DUE.yes("draft behind that", x.draft(Texts.packed("=1")));
        DUE.is("the draft stayed", x.prepare(), 1);
        DUE.is("the question stayed", x.ask(0), 0);
        ObjectBase y = Bases.begun(Bases.schema());
        DUE.yes("draft in a batch", y.draft(Texts.packed("#A")));
        DUE.is("prepare() in a batch", y.prepare(), 0);
    }

    private static void numbersOfQuestions() {
        DUE.sentence("its number (questions and indexes are numbered from 0)");
        ObjectBase x = Bases.schema();
        for (int q = 0; q < 12; q++) {
            DUE.is("prepare() of what is none", Texts.prepare(x, "*A?"), BAD);
            DUE.is("prepare()", Texts.prepare(x, "*" + (char) ('A' + q % 3)), q);
        }
        DUE.is("index", x.index(1, 0, -1, -1), 0);
    }

    private static ObjectBase withQuestions(int count, String draft) {
        ObjectBase x = Bases.withObjects(3, 3);
        Texts.draft(x, "*A?x.c=n");
        x.prepare();
        Texts.draft(x, "*A");
        for (int q = 0; q < count; q++) {
            x.prepare();
        }
        x.ask(0);
        Texts.draft(x, draft);
        return x;
    }

    private static void twelveQuestions() {
        DUE.sentence("ROOM if 12 are there (tested last).");
        DUE.is("a twelfth", withQuestions(11, "#B").prepare(), 11);
        Twins.refused(DUE, "a thirteenth", () -> withQuestions(12, "#B"), x -> x.prepare(), ROOM);
        Twins.refused(DUE, "a thirteenth of 60 characters", () -> withQuestions(12, SIXTY), x -> x.prepare(), ROOM);
        ObjectBase y = withQuestions(12, "#B");
        DUE.is("a thirteenth", y.prepare(), ROOM);
        DUE.is("a fourteenth", y.prepare(), ROOM);
        DUE.is("ask(12)", y.ask(12), BAD);
        for (int q = 0; q < 12; q++) {
            DUE.is("ask(" + q + ")", y.ask(q), 3);
            DUE.is("hit(2)", y.hit(2), 3);
        }
        DUE.sentence("DOWN comes before BAD, BAD before ROOM.");
        String[] wrong = {"#", "*D", "*A?x.a=n", "*A?x.d=1", "*A?n=n|", "!", "*A?" + "!".repeat(13) + "n=n"};
        for (String text : wrong) {
            Twins.refused(DUE, "a thirteenth, " + text, () -> withQuestions(12, text), x -> x.prepare(), BAD);
            Twins.refused(DUE, text + " while down", () -> Bases.crashed(withQuestions(12, text)), x -> x.prepare(), DOWN);
        }
        Twins.refused(DUE, "a thirteenth while down", () -> Bases.crashed(withQuestions(12, "#B")), x -> x.prepare(), DOWN);
        Twins.refused(DUE, "an empty draft, 12 there", () -> withQuestions(12, ""), x -> x.prepare(), BAD);
    }

    private static void theDraftStays() {
        DUE.sentence("(The draft stays.)");
        ObjectBase x = Bases.schema();
        Texts.draft(x, "#A?n");
        DUE.is("prepare() of what is none yet", x.prepare(), BAD);
        DUE.yes("draft", x.draft(Texts.packed("=n")));
        for (int q = 0; q < 12; q++) {
            DUE.is("prepare() of the same", x.prepare(), q);
        }
        DUE.is("prepare() of one more", x.prepare(), ROOM);
        DUE.yes("draft behind that", x.draft(Texts.packed("|")));
        DUE.is("prepare() of what is none", x.prepare(), BAD);
        DUE.yes("draft behind that", x.draft(Texts.packed("n=n")));
        DUE.is("prepare() of what is one", x.prepare(), ROOM);
        ObjectBase y = Bases.withObjects(3, 3);
        Texts.draft(y, "#A");
        DUE.is("prepare()", y.prepare(), 0);
        DUE.yes("draft behind it", y.draft(Texts.packed("?x=n")));
        DUE.is("ask(0): the question does not change with the draft", y.ask(0), 3);
    }

    private static void prepareRefused() {
        DUE.sentence("DOWN; BAD if it is none, or its types do not fit");
        Twins.refused(DUE, "an empty draft", Bases::schema, x -> x.prepare(), BAD);
        String[] wrong = {"*", "A", "*A?", "*A?n", "*A?x.a=n", "*A?x.c=x.c", "*A?x.b<n", "*A?Eyx.b:n=n", "+x.bA", "+x.dA", "*A?x.f=1"};
        for (String text : wrong) {
            Twins.refused(DUE, text, () -> withQuestions(2, text), x -> x.prepare(), BAD);
            Twins.refused(DUE, text + " in a batch", () -> Bases.begun(withQuestions(2, text)), x -> x.prepare(), BAD);
        }
    }

    /** Of what was read in vain nothing is left for the next one, whatever stood at its places. */
    private static void nothingIsLeftOfTheRefused() {
        DUE.sentence("A call that is refused changes nothing, unless it says so.");
        String[][] pairs = {
            {"*A?x.b=5", "*A?x.b=n"}, {"*A?5=n", "*A?n=n"}, {"*A?Eyx.c:y=5", "*A?y=x"}, {"*A?Eyx.c:Ezx.c:z=5", "*A?Ezx.c:z=n"},
            {"+x.aA?", "*A"}, {"*B?n=n|", "*A"}, {"*A?x=n&", "*A"}, {"*A?x=n)", "*A?n=n"}, {"*A?!x=x|", "*A?x=x"},
            {"*A?x.a=99|(", "*A?x.a=0|x=n"}, {"*A?" + "!".repeat(13) + "n=n", "*A?" + "!".repeat(12) + "n=n"},
        };
        for (String[] pair : pairs) {
            ObjectBase x = Bases.withObjects(3, 3);
            DUE.is("prepare() of " + pair[0], Texts.prepare(x, pair[0]), BAD);
            int q = Texts.prepare(x, pair[1]);
            ObjectBase y = Bases.withObjects(3, 3);
            DUE.is("prepare() of " + pair[1] + " behind " + pair[0], q, Texts.prepare(y, pair[1]));
            DUE.is("ask of " + pair[1] + " behind " + pair[0], x.ask(0), y.ask(0));
            DUE.is("sum() of it", x.sum(), y.sum());
            DUE.is("hit(0) of it", x.hit(0), y.hit(0));
            DUE.is("look(8) of it", x.look(8), y.look(8));
        }
    }

    private static void modesAndClasses() {
        DUE.sentence("QUESTIONS are texts: `*`, `#` or `+` and a PATH; then a class (A for 1, B for 2, ..), then nothing, or `?` and a CONDITION.");
        for (char c = 33; c <= 126; c++) {
            String head = String.valueOf(c);
            DUE.is(head + "A", Texts.prepare(Bases.schema(), head + "A"), c == '*' || c == '#' ? 0 : BAD);
            DUE.is(head + "x.aA", Texts.prepare(Bases.schema(), head + "x.aA"), c == '+' ? 0 : BAD);
            DUE.is("*" + c, Texts.prepare(Bases.schema(), "*" + c), c >= 'A' && c <= 'C' ? 0 : BAD);
            DUE.is("+x.a" + c, Texts.prepare(Bases.schema(), "+x.a" + c), c == 'A' || c == 'B' ? 0 : BAD);
            DUE.is("*A" + c, Texts.prepare(Bases.schema(), "*A" + c), BAD);
            DUE.is("*A" + c + "n=n", Texts.prepare(Bases.schema(), "*A" + c + "n=n"), c == '?' ? 0 : BAD);
        }
    }

    private static void classesThatAreThere() {
        DUE.sentence("then a class (A for 1, B for 2, ..)");
        for (int count = 0; count <= 5; count++) {
            for (int c = 1; c <= 6; c++) {
                String text = "#" + (char) ('A' + c - 1);
                DUE.is(count + " classes, " + text, Texts.prepare(Bases.withClasses(count), text), c <= count ? 0 : BAD);
            }
        }
        ObjectBase x = Bases.withClasses(5);
        x.begin();
        x.make(5);
        x.name(0, 1);
        x.commit();
        DUE.is("#E", x.ask(Texts.prepare(x, "#E")), 1);
        DUE.is("#D", x.ask(Texts.prepare(x, "#D")), 0);
    }

    private static void fieldsThatAreThere() {
        DUE.sentence("`.` and a field (a for 0, b for 1, ..)");
        for (int count = 0; count <= 8; count++) {
            for (int f = -1; f <= 8; f++) {
                ObjectBase x = Bases.withClasses(1);
                for (int i = 0; i < count; i++) {
                    x.field(1, 0, 0);
                }
                String path = "x." + (char) ('a' + f);
                int want = f >= 0 && f < count ? 0 : BAD;
                DUE.is(count + " fields, *A?" + path + "=0", Texts.prepare(x, "*A?" + path + "=0"), want);
                DUE.is(count + " fields, +" + path + "A", Texts.prepare(x, "+" + path + "A"), want == 0 ? 1 : BAD);
            }
        }
    }

    /** Of what a text begins with, only the beginnings of these lengths are questions. */
    private static void beginnings(String text, Integer... lengths) {
        Set<Integer> right = new TreeSet<>(Arrays.asList(lengths));
        for (int length = 0; length <= text.length(); length++) {
            String beginning = text.substring(0, length);
            DUE.is("prepare() of " + beginning, Texts.prepare(Bases.schema(), beginning), right.contains(length) ? 0 : BAD);
        }
    }

    private static void endsOfTexts() {
        DUE.sentence("Reads the draft as a question");
        beginnings("*A?x.b.a=57&n=n|x=n", 2, 10, 11, 15, 19);
        beginnings("#A?!(Eyx.c:y.a<-12)", 2, 19);
        beginnings("+x.b.aA?x=x.b", 7, 11, 13);
        beginnings("*A?Ezx.b.c:!Eyz.c:(y=z&n=x)|5>x.a", 2, 27, 33);
        beginnings("*C?Eyx.g:y.e.f=0000000000", 2, 16, 17, 18, 19, 20, 21, 22, 23, 24, 25);
        String[] wrong = {"*A?n=n)", "*A?(n=n", "*A?(n=n))", "*A?((n=n)", "*A?()", "*A?(n=n)n=n", "*A?(n=n)(n=n)", "*A?!", "*A?n=n!n=n", "*A?n=n?n=n"};
        for (String text : wrong) {
            bad(text);
        }
    }

    private static void partsAndFactors() {
        DUE.sentence("A CONDITION: PARTS with `|` between them: one of them holds. A PART: FACTORS with `&` between them: all hold.");
        for (char between : new char[] {'|', '&'}) {
            for (int count = 1; count <= 14; count++) {
                String text = "#A?n=n" + (between + "n=n").repeat(count - 1);
                good(text);
                if (text.length() < 60) {
                    bad(text + between);
                }
                bad("#A?" + between + text.substring(3));
            }
            bad("#A?n=n" + between + between + "n=n");
            bad("#A?(" + between + "n=n)");
            bad("#A?(n=n" + between + ")");
            bad("#A?" + between);
        }
        bad("#A?n=n|&n=n");
        bad("#A?n=n&|n=n");
        bad("#A?n=n,n=n");
        good("#A?n=n&n=n|n=n&n=n|n=n");
    }

    private static void nests() {
        DUE.sentence("nests of brackets, ! and E (each is one) go at most 12 deep");
        for (int deep = 0; deep <= 14; deep++) {
            int want = deep <= 12 ? 0 : BAD;
            String[] texts = {
                "#A?" + "!".repeat(deep) + "n=n",
                "#A?" + "(".repeat(deep) + "n=n" + ")".repeat(deep),
                "#A?n=n&" + "!".repeat(deep) + "n=n",
                "#A?n=n|" + "(".repeat(deep) + "n=n" + ")".repeat(deep) + "|n=n",
                "#A?" + "!(".repeat(deep / 2) + "!".repeat(deep % 2) + "n=n" + ")".repeat(deep / 2),
            };
            for (String text : texts) {
                DUE.is(text, Texts.prepare(Bases.schema(), text), want);
            }
            if (deep >= 2) {
                String[] some = {
                    "#A?" + "!".repeat(deep - 1) + "Eyx.c:n=n",
                    "#A?Eyx.c:" + "!".repeat(deep - 1) + "n=n",
                    "#A?Eyx.c:Ezy.c:" + "!".repeat(deep - 2) + "z=y",
                    "#A?" + "(".repeat(deep - 2) + "Eyx.c:Ezx.c:n=n" + ")".repeat(deep - 2),
                    "#A?Eyx.c:" + "(".repeat(deep - 1) + "n=n" + ")".repeat(deep - 1),
                    "#A?(n=n&" + "!".repeat(deep - 1) + "n=n)",
                };
                for (String text : some) {
                    DUE.is(text, Texts.prepare(Bases.schema(), text), want);
                }
            }
        }
        String side = "!".repeat(12) + "n=n";
        good("#A?" + side + "&" + side + "|" + side);
        good("#A?" + "(".repeat(12) + "n=n" + ")".repeat(12) + "&" + "(".repeat(12) + "n=n" + ")".repeat(12));
        good("#A?(" + "!".repeat(11) + "n=n&" + "!".repeat(11) + "n=n)");
        bad("#A?(" + "!".repeat(11) + "n=n&" + "!".repeat(12) + "n=n)");
    }

    private static void digits() {
        DUE.sentence("a number, one to ten digits with - before them or not, that are an int");
        String[] signs = {"", "-"};
        for (String sign : signs) {
            bad("#A?x.a=" + sign);
            bad("#A?" + sign + "=x.a");
            for (int count = 1; count <= 12; count++) {
                int want = count <= 10 ? 0 : BAD;
                for (String digit : new String[] {"0", "1"}) {
                    String number = sign + digit.repeat(count);
                    DUE.is("x.a=" + number, Texts.prepare(Bases.schema(), "#A?x.a=" + number), want);
                    DUE.is(number + ">x.a", Texts.prepare(Bases.schema(), "#A?" + number + ">x.a"), want);
                }
            }
        }
        String[] wrong = {"--1", "+1", "1-", "1-1", "-", "0x1", "1.", "1e1", "-n", "-x.a", "1a", "/", ":"};
        for (String number : wrong) {
            bad("#A?x.a=" + number);
            bad("#A?" + number + "=x.a");
        }
        DUE.sentence("Digits may begin with 0.");
        good("#A?x.a=0000000009");
        good("#A?x.a=-0000000009");
        bad("#A?x.a=00000000009");
        good("#A?x.a=00");
        good("#A?x.a=-0");
    }

    private static void ints() {
        DUE.sentence("one to ten digits with - before them or not, that are an int");
        String[] right = {"2147483647", "-2147483648", "-2147483647", "2147483646", "1999999999", "-1999999999"};
        String[] wrong = {"2147483648", "-2147483649", "4294967295", "4294967296", "-4294967296", "9999999999", "-9999999999", "2147483650"};
        for (String number : right) {
            good("#A?x.a=" + number);
            good("#A?" + number + "<x.a");
        }
        for (String number : wrong) {
            bad("#A?x.a=" + number);
            bad("#A?" + number + "<x.a");
        }
    }

    private static void operands() {
        DUE.sentence("< and > are for numbers, = for two numbers, or two of references (of whatever classes) and n (n = n always holds)");
        String[] numbers = {"5", "-5", "x.a", "x.b.a", "x.d", "x.e.f"};
        String[] references = {"n", "x", "x.b", "x.b.b", "x.e", "x.e.h"};
        String[] sets = {"x.c", "x.b.c", "x.e.g"};
        char[] signs = {'=', '<', '>'};
        for (char sign : signs) {
            for (String left : numbers) {
                pairs(left + sign, numbers, true);
                pairs(left + sign, references, false);
                pairs(left + sign, sets, false);
            }
            for (String left : references) {
                pairs(left + sign, numbers, false);
                pairs(left + sign, references, sign == '=');
                pairs(left + sign, sets, false);
            }
            for (String left : sets) {
                pairs(left + sign, numbers, false);
                pairs(left + sign, references, false);
                pairs(left + sign, sets, false);
            }
        }
        for (char c = 33; c <= 126; c++) {
            DUE.is("1" + c + "1", Texts.prepare(Bases.schema(), "#A?1" + c + "1"), c == '=' || c == '<' || c == '>' ? 0 : BAD);
        }
    }

    private static void pairs(String beginning, String[] operands, boolean right) {
        for (String operand : operands) {
            String text = "#B?" + beginning + operand;
            DUE.is("prepare() of " + text, Texts.prepare(Bases.schema(), text), right ? 0 : BAD);
        }
    }

    private static void variables() {
        DUE.sentence("Or `E`, a variable (y or z, none that stands already), a path to a set, `:` and a factor");
        for (char c = 33; c <= 126; c++) {
            DUE.is("E" + c, Texts.prepare(Bases.schema(), "#A?E" + c + "x.c:n=n"), c == 'y' || c == 'z' ? 0 : BAD);
            DUE.is("x.c" + c, Texts.prepare(Bases.schema(), "#A?Eyx.c" + c + "n=n"), c == ':' ? 0 : BAD);
            DUE.is(c + "=n", Texts.prepare(Bases.schema(), "#A?" + c + "=n"), c == 'n' || c == 'x' ? 0 : BAD);
            DUE.is(c + ".b=n", Texts.prepare(Bases.schema(), "#A?" + c + ".b=n"), c == 'x' ? 0 : BAD);
        }
        good("#A?Eyx.c:Ezx.c:n=n");
        good("#A?Ezx.c:Eyx.c:n=n");
        bad("#A?Eyx.c:Eyx.c:n=n");
        bad("#A?Ezx.c:Ezx.c:n=n");
        bad("#A?Eyx.c:Exx.c:n=n");
        bad("#A?Eyx.c:Ezx.c:Eyx.c:n=n");
        bad("#A?Eyx.c:Ezx.c:Ezx.c:n=n");
        bad("#A?Eyx.c:Ezx.c:Exx.c:n=n");
        bad("#A?Eyx.c:!(Eyx.c:n=n)");
        good("#A?Eyx.c:n=n&Eyx.c:n=n|Eyx.c:n=n");
        good("#A?Eyx.c:(Ezx.c:n=n&Ezy.c:n=n)");
        good("#A?(Eyx.c:n=n)&Ezx.c:Eyx.c:y=z");
    }

    private static void scopes() {
        DUE.sentence("A PATH is a variable that stands (x; y and z within the factor behind their `:`)");
        good("#A?Eyx.c:y=n");
        good("#A?Eyx.c:(n=n&y=n)");
        good("#A?Eyx.c:!y=n");
        good("#A?Eyx.c:x=y");
        good("#A?Eyx.c:Ezy.c:y=z");
        bad("#A?Eyx.c:z=n");
        bad("#A?Eyx.c:n=n&y=n");
        bad("#A?Eyx.c:n=n|y=n");
        bad("#A?(Eyx.c:n=n&y=n)");
        bad("#A?y=n&Eyx.c:n=n");
        bad("#A?Eyy.c:n=n");
        bad("#A?Ezz.c:n=n");
        bad("#A?Eyz.c:n=n");
        bad("#A?Eyx.c:(Ezx.c:n=n&z=n)");
        bad("#A?Eyx.c:Ezz.c:n=n");
        bad("#A?(Eyx.c:(n=n))&y.a=1");
        bad("#A?Eyx.c:y=nEzy.c:n=n");
    }

    private static void pathsToSets() {
        DUE.sentence("a path to a set, `:` and a factor");
        good("#B?Eyx.c:n=n");
        good("#B?Eyx.b.c:n=n");
        good("#B?Eyx.e.g:n=n");
        good("#B?Eyx.e.h.c:y.a=1");
        good("#B?Eyx.e.g:y.d=1");
        String[] wrong = {"x", "x.a", "x.b", "x.e", "x.b.b", "n", "1", "", "y", "x.c.c", "x.g", "x.i", "x.", "x.c.", "c"};
        for (String path : wrong) {
            bad("#B?Ey" + path + ":n=n");
        }
        String[] noFactors = {"", "y", "y.c", "y.a", "|n=n", "&n=n", ")", "n=n)", ":n=n"};
        for (String factor : noFactors) {
            bad("#B?Eyx.c:" + factor);
        }
    }

    private static void pathsOfFields() {
        DUE.sentence("each field must belong to the class that the path so far leads to, and only the last one may be a number or a set");
        String[] right = {"x.b=n", "x.b.b=n", "x.e=n", "x.e.h=n", "x.e.h.b=n", "x.a=1", "x.d=1", "x.b.a=1", "x.e.f=1", "x.e.h.a=1"};
        for (String factor : right) {
            good("#B?" + factor);
        }
        String[] wrong = {
            "x.f=1", "x.h=n", "x.b.d=1", "x.b.e=n", "x.e.a=1", "x.e.b=n", "x.e.h.d=1", "x.e.h.e=n", "x.e.h.f=1",
            "x.a.a=1", "x.a.b=n", "x.c.a=1", "x.c.b=n", "x.b.c.b=n", "x.b.a.b=n", "x.e.g.d=1", "x..a=1", "x.=1", "x.a.=1", ".a=1", "x.B=n",
            "xb=n", "x.bb=n", "x.1=n", "n.b=n", "1.a=1",
        };
        for (String factor : wrong) {
            bad("#B?" + factor);
        }
        good("#B?Eyx.e.g:(y.d=1&y.e.f=1)");
        bad("#B?Eyx.c:y.d=1");
        bad("#A?x.d=1");
        bad("#C?x.a=1");
        good("#C?x.f=1");
    }

    private static void longPaths() {
        DUE.sentence("and any number of times `.` and a field");
        for (int count = 0; count <= 27; count++) {
            good("#A?x" + ".b".repeat(count) + "=n");
            good("#A?n=x" + ".b".repeat(count));
        }
        DUE.is("60 characters", ("#A?x" + ".b".repeat(27) + "=n").length(), 60);
        good("#A?x" + ".b".repeat(26) + ".a=5");
        bad("#A?x" + ".b".repeat(26) + ".d=5");
        bad("#A?x" + ".b".repeat(27) + ".");
        bad("#A?x" + ".b".repeat(28));
        good("#A?Eyx" + ".b".repeat(23) + ".c:y=n");
        ObjectBase x = Bases.begun(Bases.schema());
        Bases.makeMany(x, 2);
        x.name(0, 1);
        x.point(1, 1, 2);
        x.commit();
        DUE.is("a long path without a value", x.ask(Texts.prepare(x, "#A?x" + ".b".repeat(27) + "=n")), 0);
        x.begin();
        x.point(2, 1, 1);
        x.commit();
        DUE.is("a long path round a ring, odd", x.ask(Texts.prepare(x, "*A?x" + ".b".repeat(27) + "=x")), 0);
        DUE.is("a long path round a ring, even", x.ask(Texts.prepare(x, "*A?x=x" + ".b".repeat(26))), 2);
    }

    private static void pathsOfSums() {
        DUE.sentence("The path of + must be a number.");
        String[] right = {"+x.aA", "+x.aB", "+x.dB", "+x.fC", "+x.b.aA", "+x.e.fB", "+x.e.h.aB", "+x.h.b.aC", "+x.aA?n=n"};
        for (String text : right) {
            good(text);
        }
        String[] wrong = {
            "+A", "+xA", "+x.bA", "+x.cA", "+x.b.bA", "+x.b.cA", "+x.dA", "+x.aC", "+x.fA", "+x.b.dB", "+y.aA", "+z.aA", "+nA", "+5A",
            "+x.aD", "+x.a", "+x.", "+x", "+", "+.aA", "+x.a.aA", "+x.a.A", "+x..aA", "+xaA", "+aA", "+(x.a)A", "+x.aAA", "+-x.aA", "+x.iA",
        };
        for (String text : wrong) {
            bad(text);
        }
        good("+x" + ".b".repeat(27) + ".aA");
        bad("+x" + ".b".repeat(28) + "AA");
        bad("+x" + ".b".repeat(29));
        good("+x" + ".b".repeat(25) + ".aA?00=0");
        bad("+x" + ".b".repeat(28) + ".a");
    }
}
