/** count: plan numbers, points, bytes of the tape and of the result. */
public final class Promise12CountTest {
    public static void main(String[] args) {
        ByteShapes shapes = new ByteShapes(0, 10, 20);
        Wkb.shape(0, 3).number(2).number(1).xy(1, 2).number(2).xy(1, 2, 3, 4).feedTo(shapes);
        counts(shapes, 1, 0, 0, 65, 0);
        shapes.read(1);
        counts(shapes, 1, 4, 3, 0, 0);
        counts(shapes, 0, 0, 0, 0, 0);
        shapes.write(1, 0);
        counts(shapes, 1, 4, 3, 0, 65);
        shapes.feed(0, 0, 0, 0, 0);
        for (int slot = 0; slot < 4; slot++) {
            counts(shapes, slot, slot == 1 ? 4 : 0, slot == 1 ? 3 : 0, 20, 65);
        }
        for (int bad : new int[] {-1, 4, Integer.MIN_VALUE, Integer.MAX_VALUE}) {
            Check.noSuch("count(1, " + bad + ")", () -> shapes.count(1, bad));
            for (int what = 0; what < 4; what++) {
                int asked = what;
                Check.noSuch("count(" + bad + ", " + what + ")", () -> shapes.count(bad, asked));
            }
        }
        Check.badArgument("read", () -> shapes.read(1));
        counts(shapes, 1, 0, 0, 0, 65);
        Check.done();
    }

    private static void counts(ByteShapes shapes, int slot, int... due) {
        for (int what = 0; what < due.length; what++) {
            Check.equal("count(" + slot + ", " + what + ")", due[what], shapes.count(slot, what));
        }
    }
}
