/** Terms: of several exceptions the first one told is thrown. */
public final class Terms6ExceptionsTest {
    private static final int[] NO_SLOTS = {-1, 4, Integer.MIN_VALUE, Integer.MAX_VALUE};
    private static final int[] NO_ORDERS = {-1, 2, Integer.MIN_VALUE, Integer.MAX_VALUE};

    public static void main(String[] args) {
        Check.says("Of several exceptions the first one told is thrown.");
        endOfShortTape();
        readWithoutSlot();
        writeWithoutAnything();
        Check.done();
    }

    private static void endOfShortTape() {
        for (int n : new int[] {-1, 21, Integer.MIN_VALUE, Integer.MAX_VALUE}) {
            ByteShapes shapes = new ByteShapes(0, 10, 10);
            Check.badArgument("end(" + n + ") of nothing", () -> shapes.end(n));
            Wkb.bytes(new int[19]).feedTo(shapes);
            Check.badArgument("end(" + n + ") of nineteen", () -> shapes.end(n));
            Check.equal("the tape stays", 19, shapes.count(0, 2));
        }
    }

    private static void readWithoutSlot() {
        for (int slot : NO_SLOTS) {
            ByteShapes shapes = new ByteShapes(0, 10, 10);
            Check.noSuch("read(" + slot + ") of nothing", () -> shapes.read(slot));
            Wkb.bytes(7).feedTo(shapes);
            Check.noSuch("read(" + slot + ") of wrong bytes", () -> shapes.read(slot));
        }
    }

    private static void writeWithoutAnything() {
        for (int order : NO_ORDERS) {
            for (int slot : NO_SLOTS) {
                Check.leavesAll("write(" + slot + ", " + order + ")", IndexOutOfBoundsException.class,
                    shapes -> shapes.write(slot, order));
            }
            Check.leavesAll("write of an empty slot in " + order, IllegalArgumentException.class,
                shapes -> shapes.write(3, order));
        }
    }
}
