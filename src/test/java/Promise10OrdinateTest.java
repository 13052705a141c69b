/** Promise 10: ordinate. */
public final class Promise10OrdinateTest {
    public static void main(String[] args) {
        everyPoint();
        changesNothing();
        noSuchSlot();
        noSuchPoint();
        noSuchWhat();
        noPointAnyMore();
        Check.done();
    }

    private static void everyPoint() {
        Check.says("x (what 0) or y (1) of point i of a slot's shape.");
        ByteShapes shapes = new ByteShapes(3, 3, 20);
        Wkb.shape(0, 7).number(3).part(1, 2).number(2).xy(1.5, -2.25, 0.001, 4).part(0, 1).bits(-1L, -1L)
            .part(0, 3).number(1).number(1).xy(-1000000, 1000000).feedTo(shapes);
        shapes.read(1);
        Check.points("all points", shapes, 1, 1500, -2250, 1, 4000, -1000000000, 1000000000);
        Check.noSuch("behind the last, all room taken", () -> shapes.ordinate(1, 3, 0));
    }

    private static void changesNothing() {
        Check.says("x (what 0) or y (1) of point i of a slot's shape.");
        Check.answersAndChangesOnly("ordinate(0, 2, 0)", 5, shapes -> shapes.ordinate(0, 2, 0));
        Check.answersAndChangesOnly("ordinate(0, 2, 1)", 6, shapes -> shapes.ordinate(0, 2, 1));
    }

    private static void noSuch(int slot, int i, int what) {
        Check.leavesAll("ordinate(" + slot + ", " + i + ", " + what + ")", IndexOutOfBoundsException.class,
            shapes -> shapes.ordinate(slot, i, what));
    }

    private static void noSuchSlot() {
        Check.says("IndexOutOfBoundsException, when there is no such slot, point or what.");
        for (int slot : new int[] {-1, 4, 5, Integer.MIN_VALUE, Integer.MAX_VALUE}) {
            noSuch(slot, 0, 0);
            noSuch(slot, 0, 1);
            noSuch(slot, -1, 2);
        }
    }

    private static void noSuchPoint() {
        Check.says("IndexOutOfBoundsException, when there is no such slot, point or what.");
        int[] points = {3, 1, 0, 0};
        for (int slot = 0; slot < 4; slot++) {
            for (int i : new int[] {-1, points[slot], points[slot] + 1, 9, 10, 20, 4096, 1 << 30, 1 << 31 | 1,
                Integer.MIN_VALUE, Integer.MAX_VALUE}) {
                noSuch(slot, i, 0);
                noSuch(slot, i, 1);
            }
        }
    }

    private static void noSuchWhat() {
        Check.says("IndexOutOfBoundsException, when there is no such slot, point or what.");
        for (int what : new int[] {-1, 2, 3, 256, Integer.MIN_VALUE, Integer.MAX_VALUE}) {
            noSuch(0, 0, what);
            noSuch(0, 1, what);
            noSuch(0, 2, what);
        }
    }

    private static void noPointAnyMore() {
        Check.says("IndexOutOfBoundsException, when there is no such slot, point or what.");
        ByteShapes shapes = InUse.make();
        shapes.read(0);
        Check.points("fewer points", shapes, 0, 15, 25, -35, -45);
        Check.noSuch("behind fewer points", () -> shapes.ordinate(0, 2, 0));
        Wkb.shape(0, 2).number(2).xy(1, 2, 3, 4).cut(40).feedTo(shapes);
        Check.badArgument("read", () -> shapes.read(0));
        Check.noSuch("after something wrong", () -> shapes.ordinate(0, 0, 0));
    }
}
