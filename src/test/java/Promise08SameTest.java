/** Promise 8: same. */
public final class Promise08SameTest {
    private static final int[] NO_SLOTS = {-1, 4, 5, Integer.MIN_VALUE, Integer.MAX_VALUE};
    private static final long NONE = Wkb.NO_NUMBER;

    public static void main(String[] args) {
        sameShape();
        otherPlans();
        otherPoints();
        fullRooms();
        bothNone();
        noneAndEmpty();
        changesNothing();
        noSuchSlot();
        Check.done();
    }

    private static void alike(String what, boolean due, Wkb one, Wkb two) {
        ByteShapes shapes = new ByteShapes(1, 10, 20);
        one.feedTo(shapes);
        shapes.read(0);
        two.feedTo(shapes);
        shapes.read(3);
        Check.equal(what + ": same(0, 3)", due ? 1 : 0, shapes.same(0, 3) ? 1 : 0);
        Check.equal(what + ": same(3, 0)", due ? 1 : 0, shapes.same(3, 0) ? 1 : 0);
        Check.isTrue(what + ": same(0, 0)", shapes.same(0, 0));
        Check.isTrue(what + ": same(3, 3)", shapes.same(3, 3));
    }

    private static Wkb line(double... values) {
        return Wkb.shape(0, 2).number(values.length / 2).xy(values);
    }

    private static void sameShape() {
        Check.says("Whether two slots have the same shape (plan and points)");
        alike("another order and a mark, rounded alike", true, line(1, 2, 3, 4),
            Wkb.shape(1, 0x20000002L).number(7).number(2).xy(1.01, 1.99, 3, 4));
        alike("no points", true, line(), Wkb.shape(1, 2).number(0));
        alike("0 and -0", true, line(0, -0.0), line(-0.0, 0));
        alike("empty POINTs", true, Wkb.shape(0, 1).bits(NONE, NONE), Wkb.shape(1, 1).bits(-1L, -1L));
        alike("no parts", true, Wkb.shape(0, 5).number(0), Wkb.shape(1, 5).number(0));
    }

    private static void otherPlans() {
        Check.says("the same shape (plan and points)");
        alike("another kind", false, line(), Wkb.shape(0, 3).number(0));
        alike("another kind of no parts", false, Wkb.shape(0, 5).number(0), Wkb.shape(0, 6).number(0));
        alike("a line and a ring", false, line(1, 2, 3, 4), Wkb.shape(0, 3).number(1).number(2).xy(1, 2, 3, 4));
        alike("a line and POINTs", false, line(1, 2, 3, 4),
            Wkb.shape(0, 4).number(2).part(0, 1).xy(1, 2).part(0, 1).xy(3, 4));
        alike("rings of other points", false, Wkb.shape(0, 3).number(2).number(1).xy(1, 2).number(2).xy(3, 4, 5, 6),
            Wkb.shape(0, 3).number(2).number(2).xy(1, 2, 3, 4).number(1).xy(5, 6));
        alike("a longer plan that begins alike", false, Wkb.shape(0, 7).number(1).part(0, 2).number(0),
            Wkb.shape(0, 7).number(1).part(0, 7).number(0));
        alike("an empty POINT behind", false,
            Wkb.shape(0, 7).number(2).part(0, 1).xy(1, 2).part(0, 1).bits(NONE, NONE),
            Wkb.shape(0, 7).number(2).part(0, 1).bits(NONE, NONE).part(0, 1).xy(1, 2));
    }

    private static void otherPoints() {
        Check.says("the same shape (plan and points)");
        alike("the last y", false, line(1, 2, 3, 4), line(1, 2, 3, 4.1));
        alike("the first x", false, line(1, 2, 3, 4), line(0.9, 2, 3, 4));
        alike("x and y", false, line(1, 2), line(2, 1));
        alike("a point less", false, line(1, 2, 3, 4), line(1, 2));
        alike("a POINT and an empty one", false, Wkb.shape(0, 1).xy(0, 0), Wkb.shape(0, 1).bits(NONE, NONE));
    }

    private static void fullRooms() {
        Check.says("Whether two slots have the same shape (plan and points)");
        ByteShapes shapes = new ByteShapes(0, 2, 3);
        for (int slot = 0; slot < 3; slot++) {
            Wkb.shape(0, 3).number(1).number(2).xy(1, 2, 3, slot / 2).feedTo(shapes);
            shapes.read(slot);
        }
        Check.isTrue("the same", shapes.same(0, 1));
        Check.isFalse("another last y", shapes.same(0, 2));
        Check.isFalse("none", shapes.same(0, 3));
    }

    private static void bothNone() {
        Check.says("or both none.");
        ByteShapes shapes = new ByteShapes(0, 10, 10);
        for (int slot = 0; slot < 4; slot++) {
            for (int other = 0; other < 4; other++) {
                Check.isTrue("none at first", shapes.same(slot, other));
            }
        }
        for (int each = 0; each < 2; each++) {
            int slot = each;
            line(1, 2).feedTo(shapes);
            shapes.read(slot);
            Check.isFalse("one and none", shapes.same(slot, 3));
            Check.isFalse("none and one", shapes.same(3, slot));
            Wkb.bytes(7).feedTo(shapes);
            Check.badArgument("read", () -> shapes.read(slot));
            Check.isTrue("none after something wrong", shapes.same(slot, 3));
        }
        Check.isTrue("none in both after something wrong", shapes.same(0, 1));
    }

    private static void noneAndEmpty() {
        Check.says("or both none.");
        for (int kind = 1; kind <= 7; kind++) {
            ByteShapes shapes = new ByteShapes(0, 10, 10);
            (kind == 1 ? Wkb.shape(0, 1).bits(NONE, NONE) : Wkb.shape(0, kind).number(0)).feedTo(shapes);
            shapes.read(0);
            Check.isFalse("an empty " + kind + " is not none", shapes.same(0, 1));
            Check.isFalse("none is no empty " + kind, shapes.same(1, 0));
        }
    }

    private static void changesNothing() {
        Check.says("Whether two slots have the same shape");
        Check.answersAndChangesOnly("same(0, 1)", 0, shapes -> shapes.same(0, 1) ? 1 : 0);
        Check.answersAndChangesOnly("same(1, 1)", 1, shapes -> shapes.same(1, 1) ? 1 : 0);
    }

    private static void noSuchSlot() {
        Check.says("IndexOutOfBoundsException, when there is no such slot.");
        for (int bad : NO_SLOTS) {
            for (int good = 0; good < 4; good++) {
                int slot = good;
                Check.leavesAll("same(" + bad + ", " + slot + ")", IndexOutOfBoundsException.class,
                    shapes -> shapes.same(bad, slot) ? 1 : 0);
                Check.leavesAll("same(" + slot + ", " + bad + ")", IndexOutOfBoundsException.class,
                    shapes -> shapes.same(slot, bad) ? 1 : 0);
            }
            for (int other : NO_SLOTS) {
                Check.leavesAll("same(" + bad + ", " + other + ")", IndexOutOfBoundsException.class,
                    shapes -> shapes.same(bad, other) ? 1 : 0);
            }
        }
    }
}
