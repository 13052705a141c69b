/** same: plan and points, or both none. */
public final class Promise08SameTest {
    public static void main(String[] args) {
        ByteShapes shapes = new ByteShapes(1, 10, 20);
        for (int slot = 0; slot < 4; slot++) {
            Check.isTrue("none and none", shapes.same(slot, 3 - slot));
            Check.isTrue("itself", shapes.same(slot, slot));
        }
        read(shapes, 0, Wkb.shape(0, 2).number(2).xy(1, 2, 3, 4));
        Check.isFalse("one and none", shapes.same(0, 1));
        Check.isFalse("none and one", shapes.same(1, 0));
        Check.isTrue("itself", shapes.same(0, 0));
        alike(shapes, true, Wkb.shape(1, 0x20000002L).number(7).number(2).xy(1.01, 1.99, 3, 4));
        alike(shapes, false, Wkb.shape(0, 2).number(2).xy(1, 2, 3, 4.1));
        alike(shapes, false, Wkb.shape(0, 2).number(2).xy(1.1, 2, 3, 4));
        alike(shapes, false, Wkb.shape(0, 2).number(1).xy(1, 2));
        alike(shapes, false, Wkb.shape(0, 3).number(1).number(2).xy(1, 2, 3, 4));
        alike(shapes, false, Wkb.shape(0, 4).number(2).part(0, 1).xy(1, 2).part(0, 1).xy(3, 4));
        read(shapes, 0, Wkb.shape(0, 1).bits(Wkb.NO_NUMBER, Wkb.NO_NUMBER));
        Check.isFalse("an empty POINT is not none", shapes.same(0, 2));
        alike(shapes, true, Wkb.shape(1, 1).bits(-1L, -1L));
        alike(shapes, false, Wkb.shape(1, 2).number(0));
        read(shapes, 0, Wkb.shape(0, 5).number(0));
        alike(shapes, true, Wkb.shape(1, 5).number(0));
        alike(shapes, false, Wkb.shape(1, 6).number(0));
        read(shapes, 0, Wkb.shape(0, 3).number(2).number(1).xy(1, 2).number(2).xy(3, 4, 5, 6));
        alike(shapes, false, Wkb.shape(0, 3).number(2).number(2).xy(1, 2, 3, 4).number(1).xy(5, 6));
        Wkb.bytes(5).feedTo(shapes);
        Check.badArgument("read", () -> shapes.read(0));
        Check.isTrue("none after a fault", shapes.same(0, 2));
        for (int bad : new int[] {-1, 4, Integer.MIN_VALUE, Integer.MAX_VALUE}) {
            Check.noSuch("same(" + bad + ", 0)", () -> shapes.same(bad, 0) ? 1 : 0);
            Check.noSuch("same(0, " + bad + ")", () -> shapes.same(0, bad) ? 1 : 0);
            Check.noSuch("same(" + bad + ", itself)", () -> shapes.same(bad, bad) ? 1 : 0);
        }
        Check.done();
    }

    private static void read(ByteShapes shapes, int slot, Wkb bytes) {
        bytes.feedTo(shapes);
        shapes.read(slot);
    }

    private static void alike(ByteShapes shapes, boolean due, Wkb bytes) {
        read(shapes, 1, bytes);
        Check.equal("same(0, 1)", due ? 1 : 0, shapes.same(0, 1) ? 1 : 0);
        Check.equal("same(1, 0)", due ? 1 : 0, shapes.same(1, 0) ? 1 : 0);
    }
}
