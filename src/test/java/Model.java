import java.util.ArrayList;
import java.util.List;
import java.util.Map;
import java.util.TreeMap;
import java.util.TreeSet;

/**
 * The document written a second time, block by block and with the whole library of Java, to be
 * compared with ObjectBase. It shares no thought of how to hold things with it.
 */
final class Model {
    /** The disk refused a block. */
    private static final class Failure extends RuntimeException {
        private static final long serialVersionUID = 1;
    }

    /** A text that is no question. */
    static final class Refused extends RuntimeException {
        private static final long serialVersionUID = 1;
    }

    record Type(int parent) {
    }

    record Field(int owner, int kind, int target) {
    }

    record Index(int c, List<Integer> path) {
    }

    /** An object: a number or an ID is an Integer, a set a TreeSet of them. */
    static final class Thing {
        final int id;
        final int c;
        final Map<Integer, Integer> single = new TreeMap<>();
        final Map<Integer, TreeSet<Integer>> sets = new TreeMap<>();

        Thing(int id, int c) {
            this.id = id;
            this.c = c;
        }

        Thing copy() {
            Thing other = new Thing(id, c);
            other.single.putAll(single);
            sets.forEach((f, set) -> other.sets.put(f, new TreeSet<>(set)));
            return other;
        }

        int value(int f) {
            return single.getOrDefault(f, 0);
        }

        TreeSet<Integer> set(int f) {
            return sets.computeIfAbsent(f, key -> new TreeSet<>());
        }
    }

    /** A block of the log: an object, or all the names if thing is null. */
    private record Block(Thing thing, int[] names) {
    }

    final List<Type> types = new ArrayList<>();
    final List<Field> fields = new ArrayList<>();
    private final List<Index> indexes = new ArrayList<>();
    private final List<ModelQuestion> questions = new ArrayList<>();
    private String draft = "";
    private boolean everBegun;
    private int given;

    private final List<TreeMap<Integer, Thing>> halves = List.of(new TreeMap<>(), new TreeMap<>());
    private final List<Block> log = new ArrayList<>();
    private int[] diskNames = new int[4];
    private boolean mark;
    private int half;
    private int written;
    private int armed = -1;
    private boolean down;

    private TreeMap<Integer, Thing> batch;
    private int[] batchNames;
    private TreeSet<Integer> known;
    private final TreeSet<Integer> changed = new TreeSet<>();
    private boolean namesChanged;

    private ModelQuestion asked;
    private List<Integer> fitting = List.of();
    private long total;
    private int looked;

    boolean isA(int c, int other) {
        return c == other || c != 0 && isA(types.get(c - 1).parent(), other);
    }

    boolean isClass(int c) {
        return c >= 1 && c <= types.size();
    }

    boolean belongs(int c, int f) {
        return f >= 0 && f < fields.size() && isA(c, fields.get(f).owner());
    }

    /** What the open batch knows; empty without one. */
    List<Integer> knownIds() {
        return batch == null ? List.of() : new ArrayList<>(known);
    }

    int questionCount() {
        return questions.size();
    }

    private TreeMap<Integer, Thing> things() {
        return batch != null ? batch : halves.get(half);
    }

    private int[] names() {
        return batch != null ? batchNames : diskNames;
    }

    private TreeSet<Integer> reachedOf(TreeMap<Integer, Thing> things, int[] names) {
        TreeSet<Integer> found = new TreeSet<>();
        List<Integer> todo = new ArrayList<>();
        for (int id : names) {
            todo.add(id);
        }
        while (!todo.isEmpty()) {
            int id = todo.remove(todo.size() - 1);
            if (id == 0 || !found.add(id)) {
                continue;
            }
            Thing thing = things.get(id);
            for (int f = 0; f < fields.size(); f++) {
                if (fields.get(f).kind() == 1) {
                    todo.add(thing.value(f));
                } else if (fields.get(f).kind() == 2) {
                    todo.addAll(thing.set(f));
                }
            }
        }
        return found;
    }

    Thing thing(int id) {
        return halves.get(half).get(id);
    }

    int type(int parent) {
        if (down) {
            return -4;
        }
        if (parent != 0 && !isClass(parent) || types.size() >= 5 || everBegun) {
            return -1;
        }
        types.add(new Type(parent));
        return types.size();
    }

    int field(int c, int kind, int target) {
        if (down) {
            return -4;
        }
        boolean kindFits = kind == 0 || (kind == 1 || kind == 2) && isClass(target);
        if (!isClass(c) || !kindFits || fields.size() >= 8 || everBegun) {
            return -1;
        }
        fields.add(new Field(c, kind, target));
        return fields.size() - 1;
    }

    int index(int c, int f, int g, int h) {
        if (down) {
            return -4;
        }
        if (batch != null || !isClass(c) || indexes.size() >= 3 || f == -1 || g == -1 && h != -1) {
            return -1;
        }
        List<Integer> path = new ArrayList<>(List.of(f, g, h));
        while (path.get(path.size() - 1) == -1) {
            path.remove(path.size() - 1);
        }
        int at = c;
        for (int i = 0; i < path.size(); i++) {
            boolean last = i == path.size() - 1;
            if (!belongs(at, path.get(i)) || fields.get(path.get(i)).kind() != (last ? 0 : 1)) {
                return -1;
            }
            at = fields.get(path.get(i)).target();
        }
        indexes.add(new Index(c, path));
        return indexes.size() - 1;
    }

    boolean begin() {
        if (down || batch != null) {
            return false;
        }
        known = reachedOf(halves.get(half), diskNames);
        batch = new TreeMap<>();
        halves.get(half).forEach((id, thing) -> batch.put(id, thing.copy()));
        batchNames = diskNames.clone();
        changed.clear();
        namesChanged = false;
        everBegun = true;
        return true;
    }

    int make(int c) {
        if (down) {
            return -4;
        }
        if (batch == null || !isClass(c) || given >= 62) {
            return -1;
        }
        given++;
        batch.put(given, new Thing(given, c));
        known.add(given);
        changed.add(given);
        return given;
    }

    private boolean mayChange(int id, int f, int kind) {
        return !down && batch != null && known.contains(id) && belongs(batch.get(id).c, f) && fields.get(f).kind() == kind;
    }

    private boolean mayHold(int f, int target) {
        return known.contains(target) && isA(batch.get(target).c, fields.get(f).target());
    }

    boolean put(int id, int f, int v) {
        if (!mayChange(id, f, 0)) {
            return false;
        }
        batch.get(id).single.put(f, v);
        changed.add(id);
        return true;
    }

    boolean point(int id, int f, int target) {
        if (!mayChange(id, f, 1) || target != 0 && !mayHold(f, target)) {
            return false;
        }
        batch.get(id).single.put(f, target);
        changed.add(id);
        return true;
    }

    boolean join(int id, int f, int target, boolean in) {
        if (!mayChange(id, f, 2) || !mayHold(f, target)) {
            return false;
        }
        if (in) {
            batch.get(id).set(f).add(target);
        } else {
            batch.get(id).set(f).remove(target);
        }
        changed.add(id);
        return true;
    }

    boolean name(int n, int id) {
        if (down || batch == null || n < 0 || n > 3 || id != 0 && !known.contains(id)) {
            return false;
        }
        batchNames[n] = id;
        namesChanged = true;
        return true;
    }

    private void write(Runnable effect) {
        if (armed == 0) {
            throw new Failure();
        }
        if (armed > 0) {
            armed--;
        }
        written++;
        effect.run();
    }

    private void writeHome() {
        for (Block block : log) {
            write(() -> {
                if (block.thing() != null) {
                    halves.get(half).put(block.thing().id, block.thing().copy());
                } else {
                    diskNames = block.names().clone();
                }
            });
        }
        write(() -> {
            log.clear();
            mark = false;
        });
    }

    private int fall() {
        down = true;
        batch = null;
        asked = null;
        fitting = List.of();
        total = 0;
        looked = 0;
        return -4;
    }

    int commit() {
        if (down) {
            return -4;
        }
        if (batch == null) {
            return -1;
        }
        if (batch.size() > 16) {
            return -3;
        }
        List<Block> blocks = new ArrayList<>();
        for (int id : changed) {
            blocks.add(new Block(batch.get(id), null));
        }
        if (namesChanged) {
            blocks.add(new Block(null, batchNames));
        }
        batch = null;
        try {
            for (Block block : blocks) {
                write(() -> log.add(block));
            }
            write(() -> mark = true);
            writeHome();
        } catch (Failure failure) {
            return fall();
        }
        return blocks.size();
    }

    boolean abort() {
        if (down || batch == null) {
            return false;
        }
        batch = null;
        return true;
    }

    int collect() {
        if (down) {
            return -4;
        }
        if (batch != null) {
            return -1;
        }
        TreeMap<Integer, Thing> from = halves.get(half);
        TreeMap<Integer, Thing> to = halves.get(1 - half);
        int had = from.size();
        to.clear();
        try {
            for (int id : reachedOf(from, diskNames)) {
                write(() -> to.put(id, from.get(id).copy()));
            }
            write(() -> half = 1 - half);
        } catch (Failure failure) {
            return fall();
        }
        return had - to.size();
    }

    boolean arm(int n) {
        if (down || n < 0 || n > 1000) {
            return false;
        }
        armed = n;
        return true;
    }

    boolean crash() {
        if (down) {
            return false;
        }
        fall();
        return true;
    }

    int recover() {
        if (!down) {
            return -1;
        }
        armed = -1;
        down = false;
        if (mark) {
            writeHome();
            return 1;
        }
        if (!log.isEmpty()) {
            write(log::clear);
        }
        return 0;
    }

    int classOf(int id) {
        return down || !things().containsKey(id) ? 0 : things().get(id).c;
    }

    boolean reached(int id) {
        return !down && reachedOf(things(), names()).contains(id);
    }

    int get(int id, int f) {
        if (down) {
            return -4;
        }
        if (!things().containsKey(id) || !belongs(things().get(id).c, f)) {
            return -1;
        }
        return fields.get(f).kind() == 2 ? things().get(id).set(f).size() : things().get(id).value(f);
    }

    boolean holds(int id, int f, int target) {
        if (down || !things().containsKey(id) || !belongs(things().get(id).c, f)) {
            return false;
        }
        return fields.get(f).kind() == 2 && things().get(id).set(f).contains(target);
    }

    int named(int n) {
        return down ? -4 : n < 0 || n > 3 ? -1 : names()[n];
    }

    boolean draft(long s) {
        if (down) {
            return false;
        }
        if (s == 0) {
            draft = "";
            return true;
        }
        StringBuilder more = new StringBuilder();
        for (long rest = s; (rest & 255) != 0; rest >>>= 8) {
            more.append((char) (rest & 255));
        }
        boolean printable = more.chars().allMatch(c -> c >= 33 && c <= 126);
        if (more.length() == 0 || !printable || draft.length() + more.length() > 60) {
            return false;
        }
        draft += more;
        return true;
    }

    int prepare() {
        if (down) {
            return -4;
        }
        try {
            ModelQuestion question = new ModelQuestion(this, draft);
            if (questions.size() >= 12) {
                return -3;
            }
            questions.add(question);
            return questions.size() - 1;
        } catch (Refused refused) {
            return -1;
        }
    }

    int ask(int q) {
        if (down) {
            return -4;
        }
        if (batch != null || q < 0 || q >= questions.size()) {
            return -1;
        }
        asked = questions.get(q);
        fitting = new ArrayList<>();
        total = 0;
        looked = 0;
        Integer wanted = null;
        Index served = null;
        for (ModelQuestion.Key key : asked.keys) {
            for (Index index : indexes) {
                if (served == null && index.c() == asked.c && index.path().equals(key.path())) {
                    served = index;
                    wanted = key.number();
                }
            }
        }
        for (int id : reachedOf(halves.get(half), diskNames)) {
            if (!isA(thing(id).c, asked.c)) {
                continue;
            }
            if (served != null && !wanted.equals(walk(id, served.path()))) {
                continue;
            }
            looked++;
            if (asked.fits(id)) {
                fitting.add(id);
                total += asked.amount(id);
            }
        }
        return fitting.size();
    }

    /** What a path leads to from an object, null if it has no value; sets are not walked to. */
    Integer walk(int id, List<Integer> path) {
        int at = id;
        for (int f : path) {
            if (at == 0) {
                return null;
            }
            at = thing(at).value(f);
        }
        return at;
    }

    long sum() {
        return down ? 0 : total;
    }

    int hit(int i) {
        if (down) {
            return -4;
        }
        return asked == null || asked.mode != '*' || i < 0 || i >= fitting.size() ? -1 : fitting.get(i);
    }

    int look(int what) {
        if (down && what >= 0 && what <= 3) {
            return -4;
        }
        return switch (what) {
            case 0 -> halves.get(half).size();
            case 1 -> reachedOf(halves.get(half), diskNames).size();
            case 2 -> given;
            case 3 -> half;
            case 4 -> written;
            case 5 -> armed;
            case 6 -> down ? 1 : 0;
            case 7 -> batch != null ? 1 : 0;
            case 8 -> looked;
            default -> -1;
        };
    }
}
