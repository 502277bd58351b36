/** The edges of promises 17 to 21 and 27: classOf, reached, get, holds, named, look. */
public final class ShownEdgesTest {
    private static final Due DUE = new Due("ShownEdgesTest");
    private static final int BAD = ObjectBase.BAD;
    private static final int DOWN = ObjectBase.DOWN;

    /** No IDs at all; some are 1 to 5 if only their last bits count. */
    private static final int[] NO_IDS = {
        0, 63, 64, 65, 66, 69, 127, 128, 129, 257, 65537, -1, -2, -62, -63, -64, Integer.MIN_VALUE, Integer.MIN_VALUE + 1,
        Integer.MAX_VALUE,
    };
    private static final int[] NO_FIELDS = {-1, 8, 9, 16, 32, 34, 64, 66, -6, -62, Integer.MIN_VALUE, Integer.MAX_VALUE};

    public static void main(String[] args) {
        classOfEdges();
        reachedEdges();
        namesReach();
        allFieldsReach();
        chainsReach();
        ringsReach();
        getEdges();
        getOfSets();
        holdsEdges();
        namedEdges();
        looks();
        looksWhileDown();
        lookAtTheArmed();
        lookLeavesTheBatchAside();
        nothingIsChangedByTelling();
        DUE.end();
    }

    private static void classOfEdges() {
        DUE.sentence("The class of an object that has a slot or is made in the open batch; 0 if there is none or the base is down.");
        int[] want = {1, 2, 3, 1, 1, 0, 0};
        ObjectBase x = Bases.inBatch();
        for (int id = 1; id <= 7; id++) {
            DUE.is("classOf(" + id + ")", x.classOf(id), want[id - 1]);
        }
        for (int id : NO_IDS) {
            DUE.is("classOf(" + id + ")", x.classOf(id), 0);
        }
        x.crash();
        for (int id = -1; id <= 6; id++) {
            DUE.is("classOf(" + id + ") while down", x.classOf(id), 0);
        }
        x.recover();
        DUE.is("classOf(5), its batch is gone", x.classOf(5), 0);
        DUE.is("classOf(4) has a slot", x.classOf(4), 1);
        ObjectBase y = Bases.begun(Bases.withClasses(5));
        y.make(5);
        DUE.is("the fifth class", y.classOf(1), 5);
    }

    private static void reachedEdges() {
        DUE.sentence("Whether an object is reached (with a batch: as the batch has it).");
        ObjectBase x = Bases.inBatch();
        for (int id = 1; id <= 6; id++) {
            DUE.is("reached(" + id + ")", x.reached(id) ? 1 : 0, id <= 3 || id == 5 ? 1 : 0);
        }
        for (int id : NO_IDS) {
            DUE.no("reached(" + id + ")", x.reached(id));
        }
        x.name(3, 0);
        DUE.no("reached(5), named no more", x.reached(5));
        x.point(2, 4, 0);
        DUE.no("reached(3), no reference to it any more", x.reached(3));
        x.abort();
        DUE.yes("reached(3) behind an abort", x.reached(3));
        x.crash();
        for (int id = -1; id <= 6; id++) {
            DUE.no("reached(" + id + ") while down", x.reached(id));
        }
    }

    private static void namesReach() {
        DUE.sentence("An object is REACHED if a name names it, or a reference or a set of one that is reached does.");
        for (int n = 0; n <= 3; n++) {
            ObjectBase x = Bases.begun(Bases.schema());
            Bases.makeMany(x, 2);
            DUE.no("reached(1)", x.reached(1));
            x.name(n, 1);
            DUE.yes("reached(1) by name " + n, x.reached(1));
            DUE.no("reached(2)", x.reached(2));
            x.point(2, 1, 1);
            DUE.no("what refers to it is not reached by that", x.reached(2));
            x.join(2, 2, 1, true);
            DUE.no("nor what has it in a set", x.reached(2));
            x.point(1, 1, 2);
            DUE.yes("reached(2) by a reference", x.reached(2));
            x.point(1, 1, 0);
            x.join(1, 2, 2, true);
            DUE.yes("reached(2) by a set", x.reached(2));
            x.name(n, 0);
            DUE.no("reached(2) without the name", x.reached(2));
            x.commit();
            DUE.is("look(1)", x.look(1), 0);
        }
        ObjectBase x = Bases.begun(Bases.schema());
        Bases.makeMany(x, 1);
        x.put(1, 0, 1);
        x.name(0, 1);
        x.name(1, 1);
        x.name(0, 0);
        DUE.yes("another name names it still", x.reached(1));
    }

    private static void allFieldsReach() {
        DUE.sentence("or a reference or a set of one that is reached does");
        for (int kind = 0; kind <= 2; kind++) {
            ObjectBase x = Bases.withClasses(1);
            for (int f = 0; f < 8; f++) {
                x.field(1, kind, 1);
            }
            x.begin();
            Bases.makeMany(x, 9);
            x.name(1, 9);
            for (int f = 0; f < 8; f++) {
                boolean told = kind == 0 ? x.put(9, f, f + 1) : kind == 1 ? x.point(9, f, f + 1) : x.join(9, f, f + 1, true);
                DUE.yes("field " + f + " of kind " + kind, told);
                DUE.is("reached(" + (f + 1) + ") by field " + f, x.reached(f + 1) ? 1 : 0, kind == 0 ? 0 : 1);
            }
            x.commit();
            DUE.is("look(1) by fields of kind " + kind, x.look(1), kind == 0 ? 1 : 9);
        }
    }

    private static void chainsReach() {
        DUE.sentence("An object is REACHED if a name names it");
        boolean[] ways = {true, false};
        for (boolean up : ways) {
            ObjectBase x = Bases.begun(Bases.schema());
            Bases.makeMany(x, 62);
            for (int id = 1; id < 62; id++) {
                if (up) {
                    x.point(id, 1, id + 1);
                } else {
                    x.join(id + 1, 2, id, true);
                }
            }
            x.name(0, up ? 1 : 62);
            for (int id = 1; id <= 62; id++) {
                DUE.yes("reached(" + id + ") by a chain of 62", x.reached(id));
            }
        }
        ObjectBase y = Bases.begun(Bases.schema());
        Bases.makeMany(y, 16);
        for (int id = 16; id > 1; id--) {
            y.point(id, 1, id - 1);
        }
        y.name(2, 16);
        y.commit();
        DUE.is("look(1) of a chain of 16", y.look(1), 16);
    }

    private static void ringsReach() {
        DUE.sentence("What was not reached is gone.");
        ObjectBase x = Bases.begun(Bases.schema());
        Bases.makeMany(x, 6);
        x.point(1, 1, 1);
        x.join(2, 2, 2, true);
        x.point(3, 1, 4);
        x.join(4, 2, 3, true);
        x.point(5, 1, 6);
        x.point(6, 1, 5);
        x.name(0, 6);
        int[] want = {0, 0, 0, 0, 1, 1};
        for (int id = 1; id <= 6; id++) {
            DUE.is("reached(" + id + ")", x.reached(id) ? 1 : 0, want[id - 1]);
        }
        x.commit();
        DUE.is("collect()", x.collect(), 4);
    }

    private static void getEdges() {
        DUE.sentence("BAD if there is no such object (one that has a slot or is made in the open batch; reached or not) or field (then BAD may be the number, too). DOWN.");
        int[][] want = {
            {6, 2, 2, BAD, BAD, BAD, BAD, BAD}, {0, 0, 0, -3, 3, BAD, BAD, BAD}, {BAD, BAD, BAD, BAD, BAD, 10, 1, 1},
            {9, 0, 0, BAD, BAD, BAD, BAD, BAD}, {8, 0, 0, BAD, BAD, BAD, BAD, BAD}, {BAD, BAD, BAD, BAD, BAD, BAD, BAD, BAD},
        };
        ObjectBase x = Bases.inBatch();
        for (int id = 1; id <= want.length; id++) {
            for (int f = 0; f < 8; f++) {
                DUE.is("get(" + id + ", " + f + ")", x.get(id, f), want[id - 1][f]);
            }
            for (int f : NO_FIELDS) {
                DUE.is("get(" + id + ", " + f + ")", x.get(id, f), BAD);
            }
        }
        for (int id : NO_IDS) {
            DUE.is("get(" + id + ", 0)", x.get(id, 0), BAD);
            DUE.is("get(" + id + ", 2)", x.get(id, 2), BAD);
        }
        x.put(1, 0, BAD);
        DUE.is("a number that is BAD", x.get(1, 0), BAD);
        x.put(1, 0, DOWN);
        DUE.is("a number that is DOWN", x.get(1, 0), DOWN);
        x.crash();
        DUE.is("get(1, 0) while down", x.get(1, 0), DOWN);
        DUE.is("get(9, 0) while down", x.get(9, 0), DOWN);
        DUE.is("get(1, 9) while down", x.get(1, 9), DOWN);
        ObjectBase y = Bases.withClasses(1);
        y.field(1, 0, 0);
        y.begin();
        y.make(1);
        DUE.is("the last field that is there", y.get(1, 0), 0);
        DUE.is("the first that is not", y.get(1, 1), BAD);
    }

    private static void getOfSets() {
        DUE.sentence("or the ID to which the reference points (0: none), or how many objects are in the set");
        ObjectBase x = Bases.begun(Bases.schema());
        Bases.makeMany(x, 62);
        DUE.is("an empty set", x.get(1, 2), 0);
        for (int id = 1; id <= 62; id++) {
            x.join(1, 2, id, true);
        }
        DUE.is("a set of all", x.get(1, 2), 62);
        x.point(1, 1, 62);
        DUE.is("a reference to the last", x.get(1, 1), 62);
        x.point(1, 1, 1);
        DUE.is("a reference to itself", x.get(1, 1), 1);
        x.point(1, 1, 0);
        DUE.is("none", x.get(1, 1), 0);
        DUE.is("the set is as it was", x.get(1, 2), 62);
    }

    private static void holdsEdges() {
        DUE.sentence("Whether target is in the set; false also if there is no such object or set, or the base is down.");
        ObjectBase x = Bases.inBatch();
        for (int target = 0; target <= 6; target++) {
            DUE.is("holds(1, 2, " + target + ")", x.holds(1, 2, target) ? 1 : 0, target == 1 || target == 2 ? 1 : 0);
            DUE.is("holds(3, 6, " + target + ")", x.holds(3, 6, target) ? 1 : 0, target == 2 ? 1 : 0);
            DUE.no("holds(2, 2, " + target + ")", x.holds(2, 2, target));
        }
        for (int id : NO_IDS) {
            DUE.no("holds(1, 2, " + id + ")", x.holds(1, 2, id));
            DUE.no("holds(" + id + ", 2, 1)", x.holds(id, 2, 1));
        }
        for (int f : NO_FIELDS) {
            DUE.no("holds(1, " + f + ", 1)", x.holds(1, f, 1));
        }
        int[] noSets = {0, 1, 3, 4, 5, 6, 7};
        for (int f : noSets) {
            for (int target = 0; target <= 3; target++) {
                DUE.no("holds(1, " + f + ", " + target + ")", x.holds(1, f, target));
            }
        }
        DUE.no("the set of another class", x.holds(3, 2, 1));
        x.join(1, 2, 2, false);
        DUE.no("as the batch has it", x.holds(1, 2, 2));
        x.abort();
        DUE.yes("behind an abort", x.holds(1, 2, 2));
        x.crash();
        DUE.no("holds(1, 2, 2) while down", x.holds(1, 2, 2));
        ObjectBase y = Bases.begun(Bases.withObjects(2, 1));
        y.join(1, 2, 1, true);
        y.name(0, 0);
        y.commit();
        DUE.yes("of one that is not reached", y.holds(1, 2, 1));
        y.collect();
        DUE.no("of one that is gone", y.holds(1, 2, 1));
    }

    private static void namedEdges() {
        DUE.sentence("The ID that a name names, 0 if none; BAD if there is no such name; DOWN.");
        int[] want = {1, 2, 0, 5};
        ObjectBase x = Bases.inBatch();
        for (int n = 0; n <= 3; n++) {
            DUE.is("named(" + n + ")", x.named(n), want[n]);
        }
        int[] wrong = {-1, 4, 5, -4, 32, 64, Integer.MIN_VALUE, Integer.MAX_VALUE};
        for (int n : wrong) {
            DUE.is("named(" + n + ")", x.named(n), BAD);
        }
        x.crash();
        for (int n = -1; n <= 4; n++) {
            DUE.is("named(" + n + ") while down", x.named(n), DOWN);
        }
    }

    private static void looks(String when, ObjectBase x, int... want) {
        for (int what = 0; what < want.length; what++) {
            DUE.is("look(" + what + ") " + when, x.look(what), want[what]);
        }
        int[] wrong = {-1, 9, 10, -2, 16, 32, 64, Integer.MIN_VALUE, Integer.MAX_VALUE};
        for (int what : wrong) {
            DUE.is("look(" + what + ") " + when, x.look(what), BAD);
        }
    }

    private static void looks() {
        DUE.sentence("BAD if what is another number.");
        looks("of a new one", new ObjectBase(), 0, 0, 0, 0, 0, -1, 0, 0, 0);
        // Four objects and the names: w is 5.
        looks("of a small one", Bases.small(), 4, 3, 4, 0, 12, -1, 0, 0, 1);
        looks("in a batch", Bases.inBatch(), 4, 3, 5, 0, 12, -1, 0, 1, 1);
        looks("of a full one", Bases.withObjects(16, 16), 16, 16, 16, 0, 36, -1, 0, 0, 0);
        looks("while down", Bases.crashed(Bases.inBatch()), DOWN, DOWN, DOWN, DOWN, 12, -1, 1, 0, 0);
    }

    private static void looksWhileDown() {
        DUE.sentence("(these four are DOWN while it is down)");
        looks("of a new one that crashed", Bases.crashed(new ObjectBase()), DOWN, DOWN, DOWN, DOWN, 0, -1, 1, 0, 0);
        looks("cut in the log", Bases.cutCommit(2), DOWN, DOWN, DOWN, DOWN, 14, 0, 1, 0, 0);
        looks("cut behind the mark", Bases.cutCommit(4), DOWN, DOWN, DOWN, DOWN, 16, 0, 1, 0, 0);
        looks("cut in a collection", Bases.cutCollection(3), DOWN, DOWN, DOWN, DOWN, 15, 0, 1, 0, 0);
        ObjectBase x = Bases.cutCollection(3);
        x.recover();
        looks("behind that", x, 4, 3, 4, 0, 15, -1, 0, 0, 0);
        ObjectBase y = Bases.cutCommit(4);
        y.recover();
        looks("behind the mark", y, 5, 4, 5, 0, 20, -1, 0, 0, 0);
    }

    private static void lookAtTheArmed() {
        DUE.sentence("with how many the disk is armed, -1 if it is not (0 while it is down by that)");
        ObjectBase x = Bases.small();
        DUE.is("not armed", x.look(5), -1);
        x.arm(5);
        DUE.is("armed with 5", x.look(5), 5);
        x.collect();
        DUE.is("behind four blocks", x.look(5), 1);
        DUE.is("collect()", x.collect(), DOWN);
        DUE.is("down by that", x.look(5), 0);
        x.recover();
        DUE.is("not armed", x.look(5), -1);
        x.arm(4);
        x.collect();
        DUE.is("all are written", x.look(5), 0);
        DUE.is("not down", x.look(6), 0);
        x.arm(7);
        x.crash();
        DUE.is("down, but not by that", x.look(5), 7);
    }

    private static void lookLeavesTheBatchAside() {
        DUE.sentence("1 how many objects are reached (the batch left aside); 2 how many objects were made (all IDs that were given)");
        ObjectBase x = Bases.inBatch();
        x.name(0, 0);
        x.name(1, 0);
        x.name(3, 0);
        DUE.no("reached(1)", x.reached(1));
        DUE.is("look(1)", x.look(1), 3);
        DUE.is("look(0), no slot for what is new", x.look(0), 4);
        DUE.is("look(2)", x.look(2), 5);
        x.make(4);
        DUE.is("look(2) behind one that was refused", x.look(2), 5);
        x.make(3);
        DUE.is("look(2) behind one more", x.look(2), 6);
        x.abort();
        DUE.is("look(2) behind an abort", x.look(2), 6);
        x.collect();
        DUE.is("look(2) behind a collection", x.look(2), 6);
        DUE.is("look(0) behind a collection", x.look(0), 3);
        DUE.is("look(3) behind a collection", x.look(3), 1);
    }

    private static void nothingIsChangedByTelling() {
        DUE.sentence("A call that is refused changes nothing, unless it says so.");
        int[] numbers = {0, 1, 4, 5, 9, 63, -1};
        for (int n : numbers) {
            DUE.is("classOf(" + n + ")", Twins.changesSeen(Bases::inBatch, x -> x.classOf(n)), 0);
            DUE.is("reached(" + n + ")", Twins.changesSeen(Bases::inBatch, x -> x.reached(n) ? 1 : 0), 0);
            DUE.is("get(" + n + ", 0)", Twins.changesSeen(Bases::inBatch, x -> x.get(n, 0)), 0);
            DUE.is("get(1, " + n + ")", Twins.changesSeen(Bases::inBatch, x -> x.get(1, n)), 0);
            DUE.is("holds(1, 2, " + n + ")", Twins.changesSeen(Bases::inBatch, x -> x.holds(1, 2, n) ? 1 : 0), 0);
            DUE.is("named(" + n + ")", Twins.changesSeen(Bases::inBatch, x -> x.named(n)), 0);
            DUE.is("look(" + n + ")", Twins.changesSeen(Bases::inBatch, x -> x.look(n)), 0);
            DUE.is("hit(" + n + ")", Twins.changesSeen(Bases::inBatch, x -> x.hit(n)), 0);
            DUE.is("look(" + n + ") while down", Twins.changesSeen(() -> Bases.cutCommit(4), x -> x.look(n)), 0);
        }
    }
}
