import java.util.ArrayList;
import java.util.List;
import java.util.function.Predicate;
import java.util.function.Supplier;
import java.util.function.ToLongFunction;

/**
 * A call that is refused changes nothing: of two bases with the same calls behind them one is told the
 * call, and then both are told the same calls and must answer alike. Each row of calls begins with new
 * bases, so that none comes to more than 512 calls.
 */
final class Twins {
    private static final List<Row> ROWS = List.of(
        Twins::tellLooks, Twins::tellObjects, Twins::tellFirstValues, Twins::tellLastValues, Twins::tellMembers,
        Twins::goOnCommitting, Twins::goOnAborting, Twins::changeNumbers, Twins::changeLinks, Twins::nameObjects,
        Twins::goDown, Twins::addToSchema, Twins::fillDraft, Twins::goOnDrafting, Twins::askAll, Twins::collectOften);

    private final ObjectBase x;
    private final List<Long> answers = new ArrayList<>();

    private Twins(ObjectBase x) {
        this.x = x;
    }

    private interface Row {
        void tell(Twins twin);
    }

    static void refused(Due due, String call, Supplier<ObjectBase> base, ToLongFunction<ObjectBase> told, long want) {
        due.is(call, told.applyAsLong(base.get()), want);
        due.is(call + ", rows of calls that show a change", changesSeen(base, told), 0);
    }

    static void refused(Due due, String call, Supplier<ObjectBase> base, Predicate<ObjectBase> told) {
        refused(due, call, base, x -> told.test(x) ? 1 : 0, 0);
    }

    /** In how many rows of calls a base that was told the call answers otherwise than one that was not. */
    static int changesSeen(Supplier<ObjectBase> base, ToLongFunction<ObjectBase> told) {
        int seen = 0;
        for (Row row : ROWS) {
            for (int round = 0; round < 2; round++) {
                ObjectBase one = base.get();
                told.applyAsLong(one);
                ObjectBase other = base.get();
                if (!answersOf(row, one, round == 1).equals(answersOf(row, other, round == 1))) {
                    seen++;
                }
            }
        }
        return seen;
    }

    private static List<Long> answersOf(Row row, ObjectBase x, boolean recovered) {
        Twins twin = new Twins(x);
        if (recovered) {
            twin.note(x.recover());
        }
        row.tell(twin);
        return twin.answers;
    }

    private void note(long answer) {
        answers.add(answer);
    }

    private void note(boolean answer) {
        answers.add(answer ? 1L : 0L);
    }

    private void tellLooks() {
        for (int what = -1; what <= 9; what++) {
            note(x.look(what));
        }
        for (int n = -1; n <= 4; n++) {
            note(x.named(n));
        }
        note(x.sum());
        for (int i = -1; i <= 17; i++) {
            note(x.hit(i));
        }
    }

    private void tellObjects() {
        for (int id = 0; id <= 63; id++) {
            note(x.classOf(id));
            note(x.reached(id));
        }
    }

    private void tellFirstValues() {
        for (int id = 0; id <= 40; id++) {
            for (int f = 0; f < 8; f++) {
                note(x.get(id, f));
            }
        }
    }

    private void tellLastValues() {
        for (int id = 41; id <= 63; id++) {
            for (int f = 0; f < 8; f++) {
                note(x.get(id, f));
            }
        }
    }

    private void tellMembers() {
        for (int id = 1; id <= 16; id++) {
            for (int target = 1; target <= 10; target++) {
                note(x.holds(id, 2, target));
                note(x.holds(id, 6, target));
            }
        }
    }

    private void goOnCommitting() {
        note(x.commit());
        tellLooks();
        note(x.begin());
        note(x.make(1));
        note(x.commit());
        tellLooks();
    }

    private void goOnAborting() {
        note(x.abort());
        tellLooks();
        tellObjects();
        note(x.begin());
        note(x.make(1));
        note(x.abort());
        note(x.look(2));
    }

    private void changeNumbers() {
        for (int id = 1; id <= 20; id++) {
            for (int f = 0; f < 8; f++) {
                note(x.put(id, f, 9));
            }
        }
        note(x.commit());
        note(x.look(4));
    }

    private void changeLinks() {
        for (int id = 1; id <= 10; id++) {
            for (int f = 0; f < 8; f++) {
                note(x.point(id, f, id));
                note(x.join(id, f, id, true));
            }
        }
        note(x.commit());
        note(x.look(4));
    }

    private void nameObjects() {
        for (int id = 0; id <= 63; id++) {
            note(x.name(3, id));
        }
        note(x.named(3));
        note(x.commit());
    }

    private void goDown() {
        note(x.crash());
        tellLooks();
        note(x.recover());
        tellLooks();
        tellObjects();
    }

    private void addToSchema() {
        note(x.abort());
        for (int i = 0; i < 5; i++) {
            note(x.type(0));
        }
        note(x.field(1, 0, 0));
        for (int f = -1; f < 8; f++) {
            for (int g = -1; g < 8; g++) {
                note(x.index(1, f, g, -1));
            }
        }
        for (int i = 0; i < 8; i++) {
            note(x.field(1, 0, 0));
        }
    }

    private void fillDraft() {
        note(x.prepare());
        for (int i = 0; i < 61; i++) {
            note(x.draft('!'));
        }
        note(x.prepare());
    }

    private void goOnDrafting() {
        note(x.draft(Texts.packed("?n=n")));
        note(x.prepare());
        note(x.draft(Texts.packed("&n=n")));
        note(x.prepare());
        note(x.draft(0));
        note(x.prepare());
    }

    private void askAll() {
        note(x.abort());
        for (int q = 0; q <= 12; q++) {
            note(x.prepare());
        }
        for (int q = -1; q <= 12; q++) {
            note(x.ask(q));
            note(x.sum());
            note(x.look(8));
            for (int i = 0; i < 4; i++) {
                note(x.hit(i));
            }
        }
    }

    private void collectOften() {
        for (int i = 0; i < 70; i++) {
            note(x.collect());
            note(x.look(3));
            note(x.look(4));
            note(x.look(5));
        }
    }
}
