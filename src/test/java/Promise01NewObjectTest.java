/** ByteShapes(digits, points, plan): the digits' lowest two bits, and rooms of 1 and 2 to 4096. */
public final class Promise01NewObjectTest {
    public static void main(String[] args) {
        empty();
        digits();
        leastRooms();
        roomsAsTold();
        mostRooms();
        Check.done();
    }

    private static void empty() {
        ByteShapes shapes = new ByteShapes(0, 10, 10);
        for (int slot = 0; slot < 4; slot++) {
            for (int what = 0; what < 4; what++) {
                Check.equal("new: count(" + slot + ", " + what + ")", 0, shapes.count(slot, what));
            }
        }
        Check.equal("new: fault(0)", 0, shapes.fault(0));
        Check.equal("new: fault(1)", 0, shapes.fault(1));
        Check.equal("NONE", -1, ByteShapes.NONE);
    }

    private static void digits() {
        int[] given = {0, 1, 2, 3, 4, 5, 6, 7, -1, -2, -3, -4, Integer.MAX_VALUE, Integer.MIN_VALUE};
        int[] units = {1, 10, 100, 1000, 1, 10, 100, 1000, 1000, 100, 10, 1, 1000, 1};
        for (int i = 0; i < given.length; i++) {
            ByteShapes shapes = new ByteShapes(given[i], 10, 10);
            Check.reads("digits " + given[i], shapes, 0, Wkb.shape(0, 1).xy(3, -7), 1, 1);
            Check.points("digits " + given[i], shapes, 0, 3 * units[i], -7 * units[i]);
        }
    }

    private static void leastRooms() {
        int[] tooSmall = {1, 0, -1, Integer.MIN_VALUE};
        for (int room : tooSmall) {
            ByteShapes shapes = new ByteShapes(0, room, room);
            Check.reads("rooms " + room, shapes, 0, Wkb.shape(0, 2).number(1).xy(1, 2), 2, 1);
            Check.fault("rooms " + room + ", two points", shapes,
                Wkb.shape(0, 2).number(2).xy(1, 2, 3, 4), 7, 25);
            Check.fault("rooms " + room + ", three plan numbers", shapes,
                Wkb.shape(0, 3).number(1).number(1).xy(1, 2), 7, 9);
        }
    }

    private static void roomsAsTold() {
        ByteShapes shapes = new ByteShapes(0, 2, 3);
        Check.reads("2 points, 3 numbers", shapes, 0,
            Wkb.shape(0, 3).number(1).number(2).xy(1, 2, 3, 4), 3, 1, 2);
        Check.fault("3 points", shapes, Wkb.shape(0, 2).number(3).xy(1, 2, 3, 4, 5, 6), 7, 41);
        Check.fault("4 numbers", shapes,
            Wkb.shape(0, 3).number(2).number(1).xy(1, 2).number(1).xy(1, 2), 7, 29);
    }

    // More calls than an object is promised to bear: fewer never fill such rooms. The
    // tape itself is too short for 4096 points, 4094 of them are fed to it at most.
    private static void mostRooms() {
        for (int room : new int[] {4096, 4097, Integer.MAX_VALUE}) {
            ByteShapes shapes = new ByteShapes(0, room, room);
            Check.reads("4094 points, room " + room, shapes, 0, line(4094), 2, 4094);
            Check.reads("2047 parts, room " + room, shapes, 1, emptyPoints(2047), planOf(2047));
            Check.fault("2048 parts, room " + room, shapes, emptyPoints(2048), 7, 9 + 2047 * 21 + 5);
            Wkb odd = Wkb.shape(0, 7).number(2047).part(0, 3).number(1).number(1).xy(1, 2);
            for (int i = 0; i < 2046; i++) {
                odd.part(0, 7).number(0);
            }
            Check.fault("4097 plan numbers, room " + room, shapes, odd, 7, 9 + 29 + 2045 * 9 + 5);
        }
    }

    private static Wkb line(int points) {
        Wkb bytes = Wkb.shape(0, 2).number(points);
        for (int i = 0; i < points; i++) {
            bytes.xy(i, -i);
        }
        return bytes;
    }

    private static Wkb emptyPoints(int parts) {
        Wkb bytes = Wkb.shape(0, 4).number(parts);
        for (int i = 0; i < parts; i++) {
            bytes.part(0, 1).bits(Wkb.NO_NUMBER, Wkb.NO_NUMBER);
        }
        return bytes;
    }

    private static int[] planOf(int parts) {
        int[] plan = new int[2 + 2 * parts];
        plan[0] = 4;
        plan[1] = parts;
        for (int i = 2; i < plan.length; i += 2) {
            plan[i] = 1;
        }
        return plan;
    }
}
