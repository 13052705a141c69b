/** Promise 12: count. */
public final class Promise12CountTest {
    private static final int[] NO_SLOTS = {-1, 4, 5, Integer.MIN_VALUE, Integer.MAX_VALUE};
    private static final int[] NO_WHATS = {-1, 4, 5, 256, Integer.MIN_VALUE, Integer.MAX_VALUE};

    public static void main(String[] args) {
        ofASlot();
        forAnySlot();
        changesNothing();
        noSuchSlot();
        noSuchWhat();
        Check.done();
    }

    private static void counts(ByteShapes shapes, int slot, int... due) {
        for (int what = 0; what < due.length; what++) {
            Check.equal("count(" + slot + ", " + what + ")", due[what], shapes.count(slot, what));
        }
    }

    private static void ofASlot() {
        Check.says("Of a slot: its plan's numbers (0) and points (1)");
        ByteShapes shapes = InUse.make();
        counts(shapes, 0, 4, 3);
        counts(shapes, 1, 2, 1);
        counts(shapes, 2, 2, 0);
        counts(shapes, 3, 0, 0);
        shapes.read(0);
        counts(shapes, 0, 2, 2);
        Check.badArgument("read of nothing", () -> shapes.read(0));
        counts(shapes, 0, 0, 0);
        counts(shapes, 1, 2, 1);
    }

    private static void forAnySlot() {
        Check.says("bytes of the tape (2) and of the result (3), for any slot.");
        ByteShapes shapes = new ByteShapes(0, 10, 20);
        everySlot(shapes, 0, 0);
        Wkb.shape(0, 2).number(1).xy(1, 2).feedTo(shapes);
        everySlot(shapes, 25, 0);
        shapes.read(1);
        everySlot(shapes, 0, 0);
        shapes.write(1, 0);
        everySlot(shapes, 0, 25);
        shapes.feed(0, 0, 0, 0, 0);
        everySlot(shapes, 20, 25);
        shapes.end(7);
        everySlot(shapes, 7, 25);
        shapes.again();
        everySlot(shapes, 25, 25);
        Check.noSuch("read(4)", () -> shapes.read(4));
        everySlot(shapes, 0, 25);
    }

    private static void everySlot(ByteShapes shapes, int tape, int result) {
        for (int slot = 0; slot < 4; slot++) {
            Check.equal("count(" + slot + ", 2)", tape, shapes.count(slot, 2));
            Check.equal("count(" + slot + ", 3)", result, shapes.count(slot, 3));
        }
    }

    private static void changesNothing() {
        Check.says("Of a slot: its plan's numbers (0) and points (1)");
        int[] due = {4, 3, InUse.TAPE_BYTES, InUse.RESULT_BYTES};
        for (int each = 0; each < 4; each++) {
            int what = each;
            Check.answersAndChangesOnly("count(0, " + what + ")", due[what], shapes -> shapes.count(0, what));
        }
    }

    private static void noSuchSlot() {
        Check.says("IndexOutOfBoundsException, when there is no such slot or what.");
        for (int slot : NO_SLOTS) {
            for (int each = 0; each < 4; each++) {
                int what = each;
                Check.leavesAll("count(" + slot + ", " + what + ")", IndexOutOfBoundsException.class,
                    shapes -> shapes.count(slot, what));
            }
        }
    }

    private static void noSuchWhat() {
        Check.says("IndexOutOfBoundsException, when there is no such slot or what.");
        for (int what : NO_WHATS) {
            for (int each = 0; each < 4; each++) {
                int slot = each;
                Check.leavesAll("count(" + slot + ", " + what + ")", IndexOutOfBoundsException.class,
                    shapes -> shapes.count(slot, what));
            }
        }
    }
}
