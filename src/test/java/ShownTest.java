/** Promises 17 to 21 and 27: classOf, reached, get, holds, named, look. */
public final class ShownTest {
    private static final Due DUE = new Due("ShownTest");

    public static void main(String[] args) {
        classOf();
        reached();
        longChain();
        get();
        holds();
        named();
        look();
        DUE.end();
    }

    /** A (1): a number, b -> A, c set of A; B (2): d number. */
    private static ObjectBase base() {
        ObjectBase x = new ObjectBase();
        x.type(0);
        x.type(1);
        x.field(1, 0, 0);
        x.field(1, 1, 1);
        x.field(1, 2, 1);
        x.field(2, 0, 0);
        return x;
    }

    private static void classOf() {
        ObjectBase x = base();
        x.begin();
        x.make(2);
        x.make(1);
        DUE.is("classOf(1) made in the batch", x.classOf(1), 2);
        DUE.is("classOf(3)", x.classOf(3), 0);
        DUE.is("classOf(0)", x.classOf(0), 0);
        DUE.is("classOf(-1)", x.classOf(-1), 0);
        DUE.is("classOf(63)", x.classOf(63), 0);
        DUE.is("classOf(least)", x.classOf(Integer.MIN_VALUE), 0);
        x.name(0, 1);
        x.commit();
        DUE.is("classOf(2) with a slot, not reached", x.classOf(2), 1);
        x.crash();
        DUE.is("classOf(1) while down", x.classOf(1), 0);
        x.recover();
        DUE.is("classOf(1) again", x.classOf(1), 2);
        x.collect();
        DUE.is("classOf(2) collected", x.classOf(2), 0);
    }

    private static void reached() {
        ObjectBase x = base();
        x.begin();
        for (int id = 1; id <= 5; id++) {
            x.make(1);
        }
        DUE.no("reached(1) not named", x.reached(1));
        x.name(3, 1);
        x.point(1, 1, 2);
        x.join(2, 2, 3, true);
        x.join(2, 2, 4, true);
        for (int id = 1; id <= 4; id++) {
            DUE.yes("reached(" + id + ")", x.reached(id));
        }
        DUE.no("reached(5)", x.reached(5));
        DUE.no("reached(0)", x.reached(0));
        DUE.no("reached(-1)", x.reached(-1));
        DUE.no("reached(65)", x.reached(65));
        DUE.no("reached(62)", x.reached(62));
        x.commit();
        x.begin();
        x.join(2, 2, 3, false);
        DUE.no("reached(3) out of the set", x.reached(3));
        x.point(1, 1, 0);
        DUE.no("reached(2)", x.reached(2));
        DUE.no("reached(4)", x.reached(4));
        DUE.is("look(1) leaves the batch aside", x.look(1), 4);
        x.abort();
        DUE.yes("reached(4) again", x.reached(4));
        x.crash();
        DUE.no("reached(1) while down", x.reached(1));
    }

    private static void longChain() {
        ObjectBase x = base();
        x.begin();
        for (int id = 1; id <= 62; id++) {
            x.make(1);
        }
        for (int id = 2; id <= 62; id++) {
            x.point(id, 1, id - 1);
        }
        x.name(0, 62);
        for (int id = 1; id <= 62; id++) {
            DUE.yes("reached(" + id + ") from 62", x.reached(id));
        }
        for (int id = 2; id <= 62; id++) {
            x.point(id, 1, 0);
            x.join(id - 1, 2, id, true);
        }
        x.name(0, 1);
        DUE.yes("reached(62) from 1", x.reached(62));
        x.join(30, 2, 31, false);
        DUE.yes("reached(30)", x.reached(30));
        DUE.no("reached(31)", x.reached(31));
        DUE.no("reached(62) cut off", x.reached(62));
    }

    private static void get() {
        ObjectBase x = base();
        x.begin();
        x.make(1);
        x.make(2);
        x.put(2, 3, -1);
        x.put(2, 0, 6);
        x.point(2, 1, 1);
        x.join(2, 2, 1, true);
        x.join(2, 2, 2, true);
        for (int round = 0; round < 2; round++) {
            DUE.is("get a number", x.get(2, 0), 6);
            DUE.is("get a number that is -1", x.get(2, 3), -1);
            DUE.is("get a reference", x.get(2, 1), 1);
            DUE.is("get none", x.get(1, 1), 0);
            DUE.is("get a set", x.get(2, 2), 2);
            DUE.is("get a field of a class below", x.get(1, 3), ObjectBase.BAD);
            DUE.is("get field 4", x.get(2, 4), ObjectBase.BAD);
            DUE.is("get field -1", x.get(2, -1), ObjectBase.BAD);
            DUE.is("get field 8", x.get(2, 8), ObjectBase.BAD);
            DUE.is("get of 0", x.get(0, 0), ObjectBase.BAD);
            DUE.is("get of 3", x.get(3, 0), ObjectBase.BAD);
            DUE.is("get of 63", x.get(63, 0), ObjectBase.BAD);
            DUE.is("get of -5", x.get(-5, 0), ObjectBase.BAD);
            if (round == 0) {
                x.commit();
            }
        }
        x.begin();
        x.crash();
        DUE.is("get while down", x.get(2, 0), ObjectBase.DOWN);
        DUE.is("get of 0 while down", x.get(0, 99), ObjectBase.DOWN);
    }

    private static void holds() {
        ObjectBase x = base();
        x.begin();
        x.make(1);
        x.make(1);
        x.name(0, 1);
        x.join(1, 2, 2, true);
        x.point(1, 1, 2);
        for (int round = 0; round < 2; round++) {
            DUE.yes("holds(1, 2, 2)", x.holds(1, 2, 2));
            DUE.no("holds(1, 2, 1)", x.holds(1, 2, 1));
            DUE.no("holds of a reference", x.holds(1, 1, 2));
            DUE.no("holds of a number", x.holds(1, 0, 0));
            DUE.no("holds 0", x.holds(1, 2, 0));
            DUE.no("holds 66", x.holds(1, 2, 66));
            DUE.no("holds -62", x.holds(1, 2, -62));
            DUE.no("holds field 4", x.holds(1, 4, 2));
            DUE.no("holds field -1", x.holds(1, -1, 2));
            DUE.no("holds of 3", x.holds(3, 2, 2));
            DUE.no("holds of 0", x.holds(0, 2, 2));
            if (round == 0) {
                x.commit();
            }
        }
        x.crash();
        DUE.no("holds while down", x.holds(1, 2, 2));
    }

    private static void named() {
        ObjectBase x = base();
        x.begin();
        x.make(1);
        x.name(3, 1);
        DUE.is("named(3) in the batch", x.named(3), 1);
        DUE.is("named(0)", x.named(0), 0);
        DUE.is("named(4)", x.named(4), ObjectBase.BAD);
        DUE.is("named(-1)", x.named(-1), ObjectBase.BAD);
        x.commit();
        DUE.is("named(3)", x.named(3), 1);
        x.crash();
        DUE.is("named(3) while down", x.named(3), ObjectBase.DOWN);
        DUE.is("named(4) while down", x.named(4), ObjectBase.DOWN);
    }

    private static void look() {
        ObjectBase x = base();
        x.begin();
        x.make(1);
        x.make(1);
        x.name(0, 2);
        looks("in the batch", x, 0, 0, 2, 0, 0, -1, 0, 1, 0);
        x.arm(20);
        x.commit();
        looks("after it", x, 2, 1, 2, 0, 8, 12, 0, 0, 0);
        x.collect();
        looks("collected", x, 1, 1, 2, 1, 10, 10, 0, 0, 0);
        x.ask(Texts.prepare(x, "#A?x.a=1"));
        looks("asked", x, 1, 1, 2, 1, 10, 10, 0, 0, 1);
        x.begin();
        x.make(1);
        x.name(0, 0);
        looks("a batch open", x, 1, 1, 3, 1, 10, 10, 0, 1, 1);
        x.crash();
        looks("down", x, -4, -4, -4, -4, 10, 10, 1, 0, 0);
        x.recover();
        looks("up", x, 1, 1, 3, 1, 10, -1, 0, 0, 0);
    }

    private static void looks(String when, ObjectBase x, int... want) {
        for (int what = 0; what < want.length; what++) {
            DUE.is("look(" + what + ") " + when, x.look(what), want[what]);
        }
        DUE.is("look(9) " + when, x.look(9), ObjectBase.BAD);
        DUE.is("look(-1) " + when, x.look(-1), ObjectBase.BAD);
    }
}
