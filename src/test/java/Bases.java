/** The bases from which the tests of the edges begin. */
final class Bases {
    private Bases() {
    }

    static ObjectBase withClasses(int count) {
        ObjectBase x = new ObjectBase();
        for (int i = 0; i < count; i++) {
            x.type(0);
        }
        return x;
    }

    /**
     * A (1): a number, b -> A, c set of A; B (2) extends A: d number, e -> C; C (3): f number,
     * g set of B, h -> A. That is all eight fields.
     */
    static ObjectBase schema() {
        ObjectBase x = new ObjectBase();
        x.type(0);
        x.type(1);
        x.type(0);
        x.field(1, 0, 0);
        x.field(1, 1, 1);
        x.field(1, 2, 1);
        x.field(2, 0, 0);
        x.field(2, 1, 3);
        x.field(3, 0, 0);
        x.field(3, 2, 2);
        x.field(3, 1, 1);
        return x;
    }

    /** So many objects of A, of which 1 up to the last reached one are reached: 1 is named and has them in c. */
    static ObjectBase withObjects(int count, int reached) {
        ObjectBase x = schema();
        x.begin();
        makeMany(x, count);
        for (int id = 2; id <= reached; id++) {
            x.join(1, 2, id, true);
        }
        if (reached > 0) {
            x.name(0, 1);
        }
        x.commit();
        return x;
    }

    static void makeMany(ObjectBase x, int count) {
        for (int i = 0; i < count; i++) {
            x.make(1);
        }
    }

    /**
     * 1 A: a 5, b 2, c {1, 2}; 2 B: d -3, e 3; 3 C: f 10, g {2}, h 1; 4 A: a 9, with a slot but not
     * reached. The names 0 to 2 name 1 to 3. An index of A's a, two questions, a draft, a latest answer.
     */
    static ObjectBase small() {
        ObjectBase x = schema();
        x.begin();
        x.make(1);
        x.make(2);
        x.make(3);
        x.make(1);
        x.put(1, 0, 5);
        x.put(2, 3, -3);
        x.put(3, 5, 10);
        x.put(4, 0, 9);
        x.point(1, 1, 2);
        x.point(2, 4, 3);
        x.point(3, 7, 1);
        x.join(1, 2, 1, true);
        x.join(1, 2, 2, true);
        x.join(3, 6, 2, true);
        for (int n = 0; n < 3; n++) {
            x.name(n, n + 1);
        }
        x.commit();
        x.index(1, 0, -1, -1);
        Texts.prepare(x, "#A");
        x.ask(Texts.prepare(x, "*A?x.a=5"));
        Texts.draft(x, "#B");
        return x;
    }

    /**
     * The same with an open batch in which 5 A is made: a 8, named by 3; 1's a is 6; 3 is named no
     * more, but reached by 2.
     */
    static ObjectBase inBatch() {
        ObjectBase x = small();
        x.begin();
        x.make(1);
        x.put(5, 0, 8);
        x.name(3, 5);
        x.put(1, 0, 6);
        x.name(2, 0);
        return x;
    }

    /** The batch of inBatch() cut by the disk behind so many blocks; it has w = 3. */
    static ObjectBase cutCommit(int blocks) {
        ObjectBase x = inBatch();
        x.arm(blocks);
        x.commit();
        return x;
    }

    static ObjectBase cutCollection(int blocks) {
        ObjectBase x = small();
        x.arm(blocks);
        x.collect();
        return x;
    }

    static ObjectBase crashed(ObjectBase x) {
        x.crash();
        return x;
    }

    static ObjectBase begun(ObjectBase x) {
        x.begin();
        return x;
    }
}
