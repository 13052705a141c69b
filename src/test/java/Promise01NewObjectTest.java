/** Promise 1: a new object. */
public final class Promise01NewObjectTest {
    public static void main(String[] args) {
        nothingThere();
        nothingIsKept();
        digits();
        roomsAsTold();
        leastRooms();
        mostPlanNumbers();
        mostPoints();
        Check.done();
    }

    private static void nothingThere() {
        Check.says("`NONE = -1`: Nothing there.");
        Check.equal("NONE", -1, ByteShapes.NONE);
    }

    private static void nothingIsKept() {
        Check.says("A new object");
        ByteShapes shapes = new ByteShapes(0, 10, 10);
        for (int slot = 0; slot < 4; slot++) {
            for (int what = 0; what < 4; what++) {
                Check.equal("count(" + slot + ", " + what + ")", 0, shapes.count(slot, what));
            }
        }
        Check.equal("fault(0)", 0, shapes.fault(0));
        Check.equal("fault(1)", 0, shapes.fault(1));
        Check.noSuch("byteAt(0)", () -> shapes.byteAt(0));
    }

    private static void digits() {
        Check.says("So many digits are kept (the lowest two bits)");
        int[] given = {0, 1, 2, 3, 4, 5, 6, 7, -1, -2, -3, -4, Integer.MAX_VALUE, Integer.MIN_VALUE};
        int[] units = {1, 10, 100, 1000, 1, 10, 100, 1000, 1000, 100, 10, 1, 1000, 1};
        for (int i = 0; i < given.length; i++) {
            ByteShapes shapes = new ByteShapes(given[i], 10, 10);
            Check.reads("digits " + given[i], shapes, 0, Wkb.shape(0, 1).xy(3, -7), 1, 1);
            Check.points("digits " + given[i], shapes, 0, 3 * units[i], -7 * units[i]);
            Check.equal("write", 21, shapes.write(0, 0));
            Check.result("digits " + given[i], shapes, Wkb.shape(0, 1).xy(3, -7));
        }
    }

    private static void roomsAsTold() {
        Check.says("a shape has at most so many points and plan numbers");
        ByteShapes shapes = new ByteShapes(0, 2, 3);
        Check.reads("2 points, 3 numbers", shapes, 0,
            Wkb.shape(0, 3).number(1).number(2).xy(1, 2, 3, 4), 3, 1, 2);
        Check.fault("3 points", shapes, Wkb.shape(0, 2).number(3).xy(1, 2, 3, 4, 5, 6), 7, 41);
        Check.fault("4 numbers", shapes,
            Wkb.shape(0, 3).number(2).number(1).xy(1, 2).number(1).xy(1, 2), 7, 29);
        for (int slot = 0; slot < 4; slot++) {
            Check.reads("each slot has its own room", shapes, slot, Wkb.shape(0, 2).number(2).xy(1, 2, 3, 4), 2, 2);
        }
    }

    private static void leastRooms() {
        Check.says("(at least 1 and 2, at most 4096 each; others as the nearest of these)");
        for (int room : new int[] {1, 0, -1, -4096, Integer.MIN_VALUE}) {
            ByteShapes few = new ByteShapes(0, room, 100);
            Check.reads(room + " points: one", few, 0, Wkb.shape(0, 2).number(1).xy(1, 2), 2, 1);
            Check.points(room + " points: one", few, 0, 1, 2);
            Check.fault(room + " points: two", few, Wkb.shape(0, 2).number(2).xy(1, 2, 3, 4), 7, 25);
        }
        for (int room : new int[] {2, 1, 0, -1, -4096, Integer.MIN_VALUE}) {
            ByteShapes few = new ByteShapes(0, 100, room);
            Check.reads(room + " plan numbers: two", few, 0, Wkb.shape(0, 2).number(1).xy(1, 2), 2, 1);
            Check.fault(room + " plan numbers: three", few, Wkb.shape(0, 3).number(1).number(1).xy(1, 2), 7, 9);
        }
        ByteShapes three = new ByteShapes(0, 100, 3);
        Check.reads("3 plan numbers: three", three, 0, Wkb.shape(0, 3).number(1).number(1).xy(1, 2), 3, 1, 1);
    }

    // More calls than an object is promised to bear, here and below: fewer never fill such rooms.
    private static void mostPlanNumbers() {
        Check.says("at most 4096 each; others as the nearest of these");
        for (int room : new int[] {4096, 4097, 65536, Integer.MAX_VALUE}) {
            ByteShapes shapes = new ByteShapes(0, 1, room);
            Check.reads("4096 of " + room, shapes, 0, collections(2047), planOf(2047));
            Check.fault("4098 of " + room, shapes, collections(2048), 7, 9 + 2047 * 9 + 5);
            Wkb odd = Wkb.shape(0, 7).number(2047).part(0, 3).number(1).number(1).xy(1, 2);
            for (int i = 0; i < 2046; i++) {
                odd.part(0, 7).number(0);
            }
            Check.fault("4097 of " + room, shapes, odd, 7, 9 + 29 + 2045 * 9 + 5);
        }
        ByteShapes less = new ByteShapes(0, 1, 4095);
        Check.fault("4096 of 4095", less, collections(2047), 7, 9 + 2046 * 9 + 5);
    }

    private static Wkb collections(int parts) {
        Wkb bytes = Wkb.shape(0, 7).number(parts);
        for (int i = 0; i < parts; i++) {
            bytes.part(0, 7).number(0);
        }
        return bytes;
    }

    private static int[] planOf(int parts) {
        int[] plan = new int[2 + 2 * parts];
        for (int i = 0; i < plan.length; i += 2) {
            plan[i] = 7;
        }
        plan[1] = parts;
        return plan;
    }

    /** A full tape has room for 4095 points and a bit: the end is told where a point would still have room. */
    private static void mostPoints() {
        Check.says("at most 4096 each");
        for (int room : new int[] {4094, 4095, 4096, 4097, Integer.MAX_VALUE}) {
            ByteShapes shapes = new ByteShapes(0, room, 2);
            Wkb.bytes(0, 0, 0, 0, 2, 0, 0, 0x10, 0, 0, 0, 0, 0, 0, 0, 0).feedTo(shapes);
            for (int i = 0; i < 3276; i++) {
                shapes.feed(0, 0, 0, 0, 0);
            }
            Check.equal("a full tape", 65536, shapes.count(0, 2));
            Check.badArgument("read of 4096 points, room " + room, () -> shapes.read(0));
            Check.equal("room " + room, room < 4096 ? 7 : 3, shapes.fault(0));
            Check.equal("room " + room, 9 + 16 * Math.min(room, 4095), shapes.fault(1));
        }
    }
}
