/** Terms: writing. */
public final class Terms4WritingTest {
    private static final long NONE = Wkb.NO_NUMBER;

    public static void main(String[] args) {
        oneOrderForAll();
        withoutMarks();
        nearest();
        zero();
        emptyPoint();
        theSameIsReadAgain();
        Check.done();
    }

    private static void writes(String what, int digits, int order, Wkb read, Wkb due) {
        ByteShapes shapes = new ByteShapes(digits, 20, 40);
        read.feedTo(shapes);
        shapes.read(2);
        Check.equal(what + ": write", due.bytes().length, shapes.write(2, order));
        Check.result(what, shapes, due);
    }

    /** A shape of all kinds, the orders being 0 or 1, or in turn when they are 2. */
    private static Wkb allKinds(int orders) {
        int one = orders == 2 ? 0 : orders;
        int two = orders == 2 ? 1 : orders;
        return Wkb.shape(one, 7).number(4)
            .part(two, 4).number(2).part(one, 1).xy(7, 8).part(two, 1).bits(NONE, NONE)
            .part(two, 6).number(2).part(one, 3).number(0).part(two, 3).number(2).number(1).xy(9, 10).number(1).xy(1, 2)
            .part(one, 7).number(1).part(two, 5).number(1).part(one, 2).number(1).xy(11, 12)
            .part(two, 2).number(2).xy(3, -4, 5, 1e6);
    }

    private static void oneOrderForAll() {
        Check.says("WRITING: in one order for all");
        for (int digits = 0; digits < 4; digits++) {
            for (int read = 0; read <= 2; read++) {
                for (int order = 0; order <= 1; order++) {
                    writes("read in " + read + ", written in " + order, digits, order, allKinds(read), allKinds(order));
                }
            }
        }
        for (int kind = 2; kind <= 7; kind++) {
            writes("none of " + kind, 0, 0, Wkb.shape(1, kind).number(0), Wkb.bytes(0, 0, 0, 0, kind, 0, 0, 0, 0));
            writes("none of " + kind, 0, 1, Wkb.shape(0, kind).number(0), Wkb.bytes(1, kind, 0, 0, 0, 0, 0, 0, 0));
        }
    }

    private static void withoutMarks() {
        Check.says("types without marks");
        Wkb marked = Wkb.shape(1, 0x20000004L).number(4326).number(2).part(0, 1).xy(1, 2)
            .part(1, 0x20000001L).number(1).xy(3, 4);
        for (int order = 0; order <= 1; order++) {
            writes("MULTIPOINT", 0, order, marked,
                Wkb.shape(order, 4).number(2).part(order, 1).xy(1, 2).part(order, 1).xy(3, 4));
        }
    }

    private static void nearest() {
        Check.says("x and y (of n in the slot, and u units in 1) as the binary fraction that is nearest to n / u, "
            + "of two as near the one with F even");
        int[] numbers = {1, 2, 3, 5, 7, 9, 10, 11, 99, 101, 123456789, 333333333, 999999999, 1000000000, 536870912,
            536870911, 67108863, 4503599, 1024, 1023, 1025};
        for (int digits = 0; digits < 4; digits++) {
            for (int n : numbers) {
                double due = Double.parseDouble(n + "e-" + digits);
                writes(n + " with " + digits + " digits", digits, 0, Wkb.shape(1, 1).xy(due, -due),
                    Wkb.shape(0, 1).xy(due, -due));
            }
        }
        writes("what is read is rounded", 1, 1, Wkb.shape(0, 1).xy(1.23, -0.06), Wkb.shape(1, 1).xy(1.2, -0.1));
        writes("so is the next unit", 3, 0, Wkb.shape(0, 1).xy(Math.nextUp(0.001), Math.nextDown(0.003)),
            Wkb.shape(0, 1).xy(0.001, 0.003));
        writes("bit by bit", 3, 0, Wkb.shape(0, 1).xy(0.001, -1000000),
            Wkb.shape(0, 1).bits(0x3F50624DD2F1A9FCL, 0xC12E848000000000L));
    }

    private static void zero() {
        Check.says("0 with all bits 0");
        for (int digits = 0; digits < 4; digits++) {
            for (double small : new double[] {0.0, -0.0, Double.MIN_VALUE, -Double.MIN_VALUE, 0.0004, -0.0004}) {
                for (int order = 0; order <= 1; order++) {
                    writes(small + " with " + digits + " digits", digits, order, Wkb.shape(0, 1).xy(small, -small),
                        Wkb.shape(order, 1).raw(new int[16]));
                }
            }
        }
    }

    private static void emptyPoint() {
        Check.says("an empty POINT with the bits 7FF8000000000000 twice");
        for (long x : new long[] {NONE, -1L, 0x7FF0000000000001L, 0xFFF8000000000000L}) {
            writes("highest first", 2, 0, Wkb.shape(1, 1).bits(x, ~0L), Wkb.bytes(0, 0, 0, 0, 1,
                0x7F, 0xF8, 0, 0, 0, 0, 0, 0, 0x7F, 0xF8, 0, 0, 0, 0, 0, 0));
            writes("lowest first", 2, 1, Wkb.shape(0, 1).bits(~0L, x), Wkb.bytes(1, 1, 0, 0, 0,
                0, 0, 0, 0, 0, 0, 0xF8, 0x7F, 0, 0, 0, 0, 0, 0, 0xF8, 0x7F));
        }
    }

    private static void theSameIsReadAgain() {
        Check.says("written so that the same is read again");
        for (int digits = 0; digits < 4; digits++) {
            ByteShapes shapes = new ByteShapes(digits, 20, 40);
            Wkb.shape(0, 7).number(2).part(1, 2).number(3).xy(0.1234, -0.5678, 99999.9999, 0.0005, -1e5, 1e-9)
                .part(0, 1).bits(NONE, -1L).feedTo(shapes);
            shapes.read(0);
            for (int order = 0; order <= 1; order++) {
                shapes.write(0, order);
                shapes.again();
                Check.equal("read", 7, shapes.read(1 + order));
                Check.isTrue("the same", shapes.same(0, 1 + order));
            }
        }
    }
}
