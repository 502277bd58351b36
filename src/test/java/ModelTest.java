import java.util.ArrayList;
import java.util.List;
import java.util.Map;
import java.util.Random;
import java.util.TreeMap;

/** All promises: random calls, the same ones each time, to an ObjectBase and to a Model. */
public final class ModelTest {
    private static final int RUNS = 4000;
    private static final int CALLS = 512;
    private static final Due DUE = new Due("ModelTest");

    private final Random random;
    private final ObjectBase x = new ObjectBase();
    private final Model m = new Model();
    private final List<String> calls = new ArrayList<>();

    /** One change in so many makes an object: some runs come to the last ID. */
    private final int makeOdds;

    private ModelTest(long seed) {
        // Seeds that are neighbours begin alike.
        random = new Random(seed * 0x9E3779B97F4A7C15L);
        makeOdds = oneIn(4) ? 2 : 20;
    }

    public static void main(String[] args) {
        Map<String, Integer> seen = new TreeMap<>();
        for (int run = 0; run < RUNS && DUE.wrongCount() == 0; run++) {
            ModelTest test = new ModelTest(run);
            test.play();
            test.calls.forEach(call -> seen.merge(call, 1, Integer::sum));
            if (DUE.wrongCount() != 0) {
                System.out.println("run " + run + ": " + test.calls);
            }
        }
        // Random calls that hardly ever get anywhere would prove little.
        String[] often = {"commit() -4", "commit() -3", "commit() 5", "recover() 0", "recover() 1", "collect() 3",
            "collect() -4", "ask(3) 0", "ask(3) 1", "ask(3) 3", "ask(3) 6", "prepare() 9", "prepare() -1", "prepare() -3",
            "hit(2) 9", "look(8) 1", "look(8) 7", "sum() -1", "sum() 6", "look(2) 62"};
        for (String call : often) {
            int times = seen.getOrDefault(call, 0);
            DUE.yes(call + " came " + times + " times", times > RUNS / 50 || DUE.wrongCount() != 0);
        }
        DUE.end();
    }

    private void play() {
        schema();
        same("begin()", x.begin(), m.begin());
        for (int i = 4 + random.nextInt(12); i > 0; i--) {
            make();
        }
        for (int i = 0; i < 40; i++) {
            change();
        }
        same("commit()", x.commit(), m.commit());
        while (calls.size() < CALLS && DUE.wrongCount() == 0) {
            step();
        }
    }

    private void same(String call, long got, long want) {
        // A step may take several calls, and what they answer behind the last one is free.
        if (calls.size() < CALLS) {
            calls.add(call + " " + want);
            DUE.is(call, got, want);
        }
    }

    private void same(String call, boolean got, boolean want) {
        same(call, got ? 1 : 0, want ? 1 : 0);
    }

    private int upTo(int bound) {
        return random.nextInt(bound + 1);
    }

    private boolean oneIn(int n) {
        return random.nextInt(n) == 0;
    }

    private void schema() {
        int classes = 1 + random.nextInt(5);
        for (int i = 0; i < classes; i++) {
            type(upTo(i));
        }
        int fields = 3 + random.nextInt(6);
        for (int i = 0; i < fields; i++) {
            int kind = i == 0 ? 0 : random.nextInt(3);
            field(1 + random.nextInt(oneIn(2) ? 1 : classes), kind, 1 + random.nextInt(classes));
        }
        if (oneIn(2)) {
            indexSomething();
        }
    }

    private void type(int parent) {
        same("type(" + parent + ")", x.type(parent), m.type(parent));
    }

    private void field(int c, int kind, int target) {
        same("field(" + c + ", " + kind + ", " + target + ")", x.field(c, kind, target), m.field(c, kind, target));
    }

    private void indexSomething() {
        int c = oneIn(20) ? upTo(6) : 1 + random.nextInt(m.types.size());
        int[] path = {-1, -1, -1};
        if (oneIn(5)) {
            for (int i = 0; i < 3; i++) {
                path[i] = upTo(10) - 2;
            }
        } else if (m.isClass(c)) {
            String text = path("x", c, 0);
            for (int i = 0; i < 3 && 2 * i + 2 < text.length(); i++) {
                path[i] = text.charAt(2 * i + 2) - 'a';
            }
        }
        same("index(" + c + ", " + path[0] + ", " + path[1] + ", " + path[2] + ")",
            x.index(c, path[0], path[1], path[2]), m.index(c, path[0], path[1], path[2]));
    }

    private int someId() {
        int given = Math.max(0, m.look(2));
        return oneIn(15) ? upTo(70) - 3 : Math.max(0, given - random.nextInt(18));
    }

    private int someField() {
        return oneIn(20) ? upTo(10) - 1 : random.nextInt(m.fields.size());
    }

    private void step() {
        int kind = random.nextInt(100);
        if (m.look(6) == 1 && oneIn(3)) {
            same("recover()", x.recover(), m.recover());
        } else if (m.look(7) == 1 && kind < 80) {
            change();
        } else if (kind < 50) {
            question();
        } else if (kind < 60) {
            show();
        } else {
            disk();
        }
    }

    private void make() {
        int c = oneIn(20) ? upTo(7) - 1 : 1 + random.nextInt(m.types.size());
        same("make(" + c + ")", x.make(c), m.make(c));
    }

    /** A change that mostly fits, so that the objects come to hang together. */
    private void change() {
        List<Integer> known = m.knownIds();
        if (oneIn(makeOdds) || known.isEmpty()) {
            make();
        } else if (oneIn(6)) {
            int n = oneIn(20) ? upTo(8) - 2 : random.nextInt(4);
            int id = oneIn(6) ? someId() : known.get(random.nextInt(known.size()));
            same("name(" + n + ", " + id + ")", x.name(n, id), m.name(n, id));
        } else {
            int id = oneIn(15) ? someId() : known.get(random.nextInt(known.size()));
            int f = someField();
            for (int tries = 0; tries < 5 && !m.belongs(m.classOf(id), f); tries++) {
                f = someField();
            }
            changeField(known, id, f);
        }
    }

    private void changeField(List<Integer> known, int id, int f) {
        boolean isField = f >= 0 && f < m.fields.size();
        int kind = oneIn(15) || !isField ? random.nextInt(3) : m.fields.get(f).kind();
        int target = oneIn(8) ? 0 : someId();
        for (int tries = 0; tries < 8 && isField && kind > 0; tries++) {
            int other = known.get(random.nextInt(known.size()));
            if (!oneIn(8) && m.isA(m.classOf(other), m.fields.get(f).target())) {
                target = other;
            }
        }
        if (kind == 0) {
            int v = oneIn(15) ? random.nextInt() : upTo(5) - 1;
            same("put(" + id + ", " + f + ", " + v + ")", x.put(id, f, v), m.put(id, f, v));
        } else if (kind == 1) {
            same("point(" + id + ", " + f + ", " + target + ")", x.point(id, f, target), m.point(id, f, target));
        } else {
            boolean in = !oneIn(4);
            same("join(" + id + ", " + f + ", " + target + ", " + in + ")", x.join(id, f, target, in), m.join(id, f, target, in));
        }
    }

    private void disk() {
        int kind = random.nextInt(40);
        if (kind < 3) {
            int n = oneIn(10) ? upTo(1100) - 50 : upTo(30);
            same("arm(" + n + ")", x.arm(n), m.arm(n));
        } else if (kind == 3) {
            same("crash()", x.crash(), m.crash());
        } else if (kind == 4) {
            same("recover()", x.recover(), m.recover());
        } else if (kind == 5 || kind < 10 && m.look(0) > 12) {
            same("abort()", x.abort(), m.abort());
        } else if (kind < 10) {
            same("collect()", x.collect(), m.collect());
        } else if (kind < 20) {
            same("commit()", x.commit(), m.commit());
        } else if (kind < 22) {
            indexSomething();
        } else if (kind == 22) {
            type(upTo(6) - 1);
            field(upTo(6), upTo(4) - 1, upTo(6));
        } else {
            same("begin()", x.begin(), m.begin());
        }
    }

    private void show() {
        int id = someId();
        int f = someField();
        int other = someId();
        switch (random.nextInt(7)) {
            case 0:
                same("classOf(" + id + ")", x.classOf(id), m.classOf(id));
                break;
            case 1:
                same("reached(" + id + ")", x.reached(id), m.reached(id));
                break;
            case 2:
                same("get(" + id + ", " + f + ")", x.get(id, f), m.get(id, f));
                break;
            case 3:
                same("holds(" + id + ", " + f + ", " + other + ")", x.holds(id, f, other), m.holds(id, f, other));
                break;
            case 4:
                int n = upTo(5) - 1;
                same("named(" + n + ")", x.named(n), m.named(n));
                break;
            case 5:
                hits();
                break;
            default:
                for (int what = -1; what <= 9; what++) {
                    same("look(" + what + ")", x.look(what), m.look(what));
                }
                break;
        }
    }

    private void hits() {
        same("sum()", x.sum(), m.sum());
        same("look(8)", x.look(8), m.look(8));
        for (int i = upTo(2) - 1; i < 3; i++) {
            same("hit(" + i + ")", x.hit(i), m.hit(i));
        }
    }

    private void question() {
        if (!oneIn(m.questionCount() < 4 ? 2 : 4)) {
            int q = oneIn(20) ? upTo(14) - 1 : upTo(m.questionCount());
            same("ask(" + q + ")", x.ask(q), m.ask(q));
            hits();
            return;
        }
        String text = text();
        if (!oneIn(30)) {
            same("draft(0)", x.draft(0), m.draft(0));
        }
        for (int i = 0; i < text.length(); i += 8) {
            long s = Texts.packed(text.substring(i, Math.min(text.length(), i + 8)));
            if (oneIn(100)) {
                s ^= 1L << random.nextInt(64);
            }
            same("draft(" + s + ")", x.draft(s), m.draft(s));
        }
        same("prepare()", x.prepare(), m.prepare());
    }

    private String text() {
        int c = 1 + random.nextInt(m.types.size());
        StringBuilder text = new StringBuilder();
        int mode = random.nextInt(4);
        text.append(mode == 0 ? "#" : mode == 1 ? "+" + path("x", c, 0) : "*");
        text.append((char) ('A' + c - 1));
        if (!oneIn(6)) {
            text.append('?').append(condition(c, 0, 0, 0));
        }
        for (int i = 0; i < 3 && oneIn(6); i++) {
            spoil(text);
        }
        return text.toString();
    }

    private void spoil(StringBuilder text) {
        String signs = "xyzn.abcdefghABCDE0123456789-=<>&|!():E?*#+";
        char sign = signs.charAt(random.nextInt(signs.length()));
        int at = random.nextInt(text.length());
        switch (random.nextInt(3)) {
            case 0:
                text.setCharAt(at, sign);
                break;
            case 1:
                text.insert(at, sign);
                break;
            default:
                if (text.length() > 1) {
                    text.deleteCharAt(at);
                }
                break;
        }
    }

    /** Classes of x, y and z, 0 where one does not stand. */
    private String condition(int cx, int cy, int cz, int deep) {
        StringBuilder text = new StringBuilder(factor(cx, cy, cz, deep));
        for (int i = 0; i < 3 && oneIn(3); i++) {
            text.append(oneIn(3) ? '|' : '&').append(factor(cx, cy, cz, deep));
        }
        return text.toString();
    }

    private String factor(int cx, int cy, int cz, int deep) {
        int kind = random.nextInt(10 + deep);
        if (kind == 0) {
            return "!" + factor(cx, cy, cz, deep + 1);
        }
        if (kind == 1) {
            return "(" + condition(cx, cy, cz, deep + 1) + ")";
        }
        if (kind <= 3) {
            String path = somePath(cx, cy, cz, 2);
            int target = m.fields.get(path.charAt(path.length() - 1) % 'a' % m.fields.size()).target();
            boolean inZ = cy != 0 || oneIn(3);
            return "E" + (inZ ? "z" : "y") + path + ":" + factor(cx, inZ ? cy : target, inZ ? target : cz, deep + 1);
        }
        if (kind <= 5) {
            return reference(cx, cy, cz) + "=" + reference(cx, cy, cz);
        }
        String sign = oneIn(2) ? "=" : oneIn(2) ? "<" : ">";
        return number(cx, cy, cz, 5) + sign + number(cx, cy, cz, 2);
    }

    private String reference(int cx, int cy, int cz) {
        return oneIn(4) ? "n" : somePath(cx, cy, cz, 1);
    }

    private String number(int cx, int cy, int cz, int paths) {
        if (random.nextInt(paths + 1) == 0) {
            return oneIn(40) ? Long.toString(random.nextLong() >> 29) : Integer.toString(upTo(5) - 1);
        }
        return somePath(cx, cy, cz, 0);
    }

    private String somePath(int cx, int cy, int cz, int kind) {
        int which = random.nextInt(4);
        if (which == 0 && cz != 0) {
            return path("z", cz, kind);
        }
        if (which <= 1 && cy != 0) {
            return path("y", cy, kind);
        }
        return path("x", cx, kind);
    }

    /** A path that ends with the kind if one is found soon. */
    private String path(String variable, int c, int kind) {
        for (int tries = 0; tries < 20; tries++) {
            StringBuilder text = new StringBuilder(variable);
            int at = c;
            int last = 1;
            for (int i = 0; i < 4 && last == 1; i++) {
                if (kind == 1 && oneIn(3)) {
                    return text.toString();
                }
                int f = random.nextInt(m.fields.size());
                if (m.isClass(at) && m.belongs(at, f)) {
                    text.append('.').append((char) ('a' + f));
                    last = m.fields.get(f).kind();
                    at = m.fields.get(f).target();
                }
            }
            if (last == kind) {
                return text.toString();
            }
        }
        return variable + ".a";
    }
}
