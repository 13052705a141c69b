import java.math.BigDecimal;
import java.util.Arrays;

/** Terms: what is wrong first, and its place. */
public final class Terms3WrongTest {
    private static final int ORDER = 1;
    private static final int KIND = 2;
    private static final int END = 3;
    private static final int NUMBER = 4;
    private static final int RANGE = 5;
    private static final int DEEP = 6;
    private static final int FULL = 7;
    private static final int BEHIND = 8;
    private static final int MORE = 9;
    private static final long NONE = Wkb.NO_NUMBER;
    private static final long MARK = 0x20000000L;

    public static void main(String[] args) {
        fromTheLeft();
        ends();
        orders();
        kinds();
        more();
        deep();
        fullBehindTheMark();
        fullBeforeRings();
        fullBeforeCoordinates();
        numbers();
        ranges();
        behind();
        afterUnfinishedShapes();
        Check.done();
    }

    private static ByteShapes roomy() {
        return new ByteShapes(0, 100, 200);
    }

    private static ByteShapes rooms(int points, int plan) {
        return new ByteShapes(0, points, plan);
    }

    private static void fromTheLeft() {
        Check.says("WHAT IS WRONG first, read from the left to the right, with its PLACE (0 for the first byte)");
        Wkb bytes = Wkb.bytes(2, 0, 0, 0, 9);
        Check.fault("an order before a kind", roomy(), bytes, ORDER, 0);
        Check.fault("a kind before an end", roomy(), Wkb.shape(0, 9), KIND, 1);
        Check.fault("an x before a y", roomy(), Wkb.shape(0, 1).bits(Wkb.INFINITE).xy(1e10), NUMBER, 5);
        Check.fault("an x before a y", roomy(), Wkb.shape(0, 1).xy(1e10).bits(Wkb.INFINITE), RANGE, 5);
        Check.fault("an x before the end", roomy(), Wkb.shape(0, 1).xy(1e10), RANGE, 5);
        Check.fault("a y before what is behind", roomy(), Wkb.shape(0, 1).xy(0, 1e10).raw(7), RANGE, 13);
        Check.fault("a point before the next", roomy(),
            Wkb.shape(0, 2).number(2).xy(0, 1e10).bits(NONE, NONE), RANGE, 17);
        Check.fault("a part before the next", roomy(),
            Wkb.shape(0, 5).number(2).part(0, 2).number(1).xy(1e10, 0).raw(9), RANGE, 18);
        Check.fault("a part before the end", roomy(), Wkb.shape(0, 7).number(9).raw(2), ORDER, 9);
        Check.fault("a ring's count before its end", roomy(), Wkb.shape(0, 3).number(9).number(0), NUMBER, 9);
    }

    /** Every cut of a whole shape ends in the piece that begins at or before it. */
    private static void ends() {
        Check.says("3 END: the bytes end before or in what is read next (told by where that begins).");
        Wkb whole = Wkb.shape(0, MARK + 7).number(9).number(3)
            .part(1, 1).xy(1, 2)
            .part(0, 2).number(1).xy(3, 4)
            .part(1, 3).number(1).number(1).xy(5, 6);
        int[] pieces = {0, 1, 5, 9, 13, 14, 18, 26, 34, 35, 39, 43, 51, 59, 60, 64, 68, 72, 80, 88};
        for (int i = 0; i + 1 < pieces.length; i++) {
            for (int cut = pieces[i]; cut < pieces[i + 1]; cut++) {
                Check.fault("cut at " + cut, roomy(), whole.cut(cut), END, pieces[i]);
            }
        }
        Check.reads("whole", roomy(), 0, whole, 7, 3, 1, 1, 2, 1, 3, 1, 1);
    }

    private static void orders() {
        Check.says("1 ORDER: neither 0 nor 1.");
        for (int order : new int[] {2, 3, 127, 128, 254, 255}) {
            Check.fault("order " + order, roomy(), Wkb.bytes(order), ORDER, 0);
            Check.fault("order " + order + " of a whole", roomy(),
                Wkb.bytes(order, 1, 0, 0, 0).raw(new int[16]), ORDER, 0);
            Check.fault("order " + order + " of a part", roomy(),
                Wkb.shape(0, 4).number(2).part(0, 1).xy(1, 2).raw(order), ORDER, 30);
        }
    }

    private static void kinds() {
        Check.says("2 KIND: none of those that could be");
        for (int order = 0; order <= 1; order++) {
            for (long type : new long[] {0, 8, 999, 1000, 1008, 2000, 2008, 3000, 3008, 4001, 5001, 0x10000001L,
                0xE0000000L, 0xFFFFFFFFL, 0x80000008L, 0x40000000L, 0x01000000L, MARK, MARK + 8}) {
                Check.fault("type " + type, roomy(), Wkb.shape(order, type), KIND, 1);
                Check.fault("type " + type + " of a part", roomy(),
                    Wkb.shape(order, 7).number(1).part(order, type), KIND, 10);
            }
        }
        for (int whole = 4; whole <= 6; whole++) {
            for (int kind = 0; kind <= 8; kind++) {
                if (kind != whole - 3) {
                    Check.fault(kind + " in " + whole, roomy(), Wkb.shape(0, whole).number(1).part(1, kind), KIND, 10);
                }
            }
        }
    }

    private static void more() {
        Check.says("then 9 MORE: there are more coordinates");
        long[] reasons = {1000, 2000, 3000, 0x80000000L, 0x40000000L, 0xC0000000L, 0xE0000000L, 0xA0000000L + 1000,
            MARK + 3000};
        for (long reason : reasons) {
            for (int kind = 1; kind <= 7; kind++) {
                Check.fault(kind + " and " + reason, roomy(), Wkb.shape(1, kind + reason), MORE, 1);
                Check.fault(kind + " and " + reason + ", no room", rooms(1, 2),
                    Wkb.shape(0, 7).number(1).part(0, kind + reason), MORE, 10);
                int due = kind == 2 ? MORE : KIND;
                Check.fault(kind + " and " + reason + " in 5", roomy(),
                    Wkb.shape(0, 5).number(1).part(0, kind + reason), due, 10);
            }
        }
    }

    private static Wkb nested(int collections, long innermost) {
        Wkb bytes = Wkb.shape(0, 7).number(1);
        for (int i = 1; i < collections; i++) {
            bytes.part(i % 2, 7).number(1);
        }
        return bytes.part(0, innermost);
    }

    private static void deep() {
        Check.says("then 6 DEEP: a GEOMETRYCOLLECTION in fifty others (all three told by where the type begins).");
        Check.fault("in fifty", roomy(), nested(50, 7), DEEP, 451);
        Check.fault("in fifty, empty", roomy(), nested(50, 7).number(0), DEEP, 451);
        Check.fault("in fifty, its mark not there", roomy(), nested(50, MARK + 7), DEEP, 451);
        Check.fault("more is told before", roomy(), nested(50, 1007), MORE, 451);
        Check.fault("a kind is told before", roomy(), nested(50, 8), KIND, 451);
        Check.fault("deep is told before full", rooms(1, 100), nested(50, 7), DEEP, 451);
        Check.fault("full is told before the fiftieth", rooms(1, 98), nested(49, 7), FULL, 446);
        int[] plan = new int[102];
        for (int i = 0; i < 50; i++) {
            plan[2 * i] = 7;
            plan[2 * i + 1] = i < 49 ? 1 : 0;
        }
        Check.reads("in forty-nine", roomy(), 0, nested(49, 7).number(0), Arrays.copyOf(plan, 100));
        plan[99] = 1;
        for (int kind = 2; kind <= 6; kind++) {
            plan[100] = kind;
            Check.reads(kind + " in fifty", roomy(), 0, nested(50, kind).number(0), plan);
        }
        deepest(Arrays.copyOf(plan, 105));
        sideBySide();
    }

    private static void deepest(int[] plan) {
        System.arraycopy(new int[] {6, 1, 3, 1, 1}, 0, plan, 100, 5);
        Check.reads("a MULTIPOLYGON's ring in fifty", roomy(), 0,
            nested(50, 6).number(1).part(1, 3).number(1).number(1).xy(1, 2), plan);
    }

    private static void sideBySide() {
        Wkb side = Wkb.shape(0, 7).number(60);
        int[] plan = new int[122];
        plan[0] = 7;
        plan[1] = 60;
        for (int i = 0; i < 60; i++) {
            side.part(0, 7).number(0);
            plan[2 + 2 * i] = 7;
        }
        Check.reads("sixty side by side", roomy(), 0, side, plan);
        Wkb last = Wkb.shape(0, 7).number(2).part(0, 7).number(0);
        for (int i = 1; i < 50; i++) {
            last.part(0, 7).number(1);
        }
        Check.fault("in fifty, behind a sister", roomy(), last.part(0, 7), DEEP, 9 + 9 + 49 * 9 + 1);
    }

    private static void fullBehindTheMark() {
        Check.says("Then, behind the mark, if there is one: 7 FULL: there is no room for the two plan numbers.");
        Wkb one = Wkb.shape(0, 7).number(2).part(0, 2).number(0);
        for (int plan = 4; plan <= 5; plan++) {
            ByteShapes shapes = rooms(9, plan);
            Check.fault("without a mark", shapes, copy(one).part(0, 2).number(0), FULL, 23);
            Check.fault("before its end", shapes, copy(one).part(0, 2), FULL, 23);
            Check.fault("with a mark", shapes, copy(one).part(0, MARK + 2).number(5).number(0), FULL, 27);
            Check.fault("with a mark, before its end", shapes, copy(one).part(0, MARK + 2).number(5), FULL, 27);
            Check.fault("the mark is not there", shapes, copy(one).part(0, MARK + 2).raw(0, 0, 0), END, 23);
            Check.fault("an empty POINT", shapes, copy(one).part(0, 1).bits(NONE, NONE), FULL, 23);
            Check.fault("a kind before", shapes, copy(one).part(0, 8), KIND, 19);
        }
        Check.reads("room for two", rooms(9, 6), 0, copy(one).part(0, 2).number(0), 7, 2, 2, 0, 2, 0);
    }

    private static Wkb copy(Wkb bytes) {
        return bytes.cut(bytes.bytes().length);
    }

    private static void fullBeforeRings() {
        Check.says("Before a ring's count: 7, no room for a plan number.");
        Wkb rings = Wkb.shape(0, 3).number(3).number(1).xy(1, 2).number(1).xy(3, 4);
        ByteShapes shapes = rooms(9, 4);
        Check.fault("the third", shapes, copy(rings).number(1).xy(5, 6), FULL, 49);
        Check.fault("before its end", shapes, rings, FULL, 49);
        Check.fault("before its number", shapes, copy(rings).number(0), FULL, 49);
        Check.fault("the first", rooms(9, 2), rings, FULL, 9);
        Check.reads("room for it", rooms(9, 5), 0, copy(rings).number(1).xy(5, 6), 3, 3, 1, 1, 1);
    }

    private static void fullBeforeCoordinates() {
        Check.says("Before a coordinate (but of an empty POINT): 7, no room for a point.");
        ByteShapes shapes = rooms(2, 20);
        Wkb line = Wkb.shape(0, 2).number(3).xy(1, 2, 3, 4);
        Check.fault("of a line", shapes, copy(line).xy(5, 6), FULL, 41);
        Check.fault("before its end", shapes, line, FULL, 41);
        Check.fault("before its numbers", shapes, copy(line).bits(Wkb.INFINITE, Wkb.INFINITE), FULL, 41);
        Check.fault("before its range", shapes, copy(line).xy(1e10, 1e10), FULL, 41);
        Check.fault("no numbers in a line", shapes, copy(line).bits(NONE, NONE), FULL, 41);
        Check.fault("of a ring", shapes, Wkb.shape(0, 3).number(1).number(3).xy(1, 2, 3, 4, 5, 6), FULL, 45);
        Wkb points = Wkb.shape(0, 4).number(3).part(0, 1).xy(1, 2).part(0, 1).xy(3, 4).part(0, 1);
        Check.fault("of a POINT", shapes, copy(points).xy(5, 6), FULL, 56);
        Check.fault("of a POINT whose bytes end", shapes, points, FULL, 56);
        Check.fault("of a POINT whose y is not there", shapes, copy(points).bits(NONE), FULL, 56);
        Check.fault("of a POINT without x", shapes, copy(points).bits(NONE, 0), FULL, 56);
        Check.fault("of a POINT without y", shapes, copy(points).bits(0, NONE), FULL, 56);
        Check.fault("of a POINT that is infinite", shapes, copy(points).bits(Wkb.INFINITE, NONE), FULL, 56);
        Check.reads("but of an empty POINT", shapes, 0, copy(points).bits(NONE, NONE), 4, 3, 1, 1, 1, 1, 1, 0);
        Check.points("but of an empty POINT", shapes, 0, 1, 2, 3, 4);
        Check.reads("room for it", rooms(3, 20), 0, copy(line).xy(5, 6), 2, 3);
    }

    private static void numbers() {
        Check.says("4 NUMBER: an x or y that is infinite or no number, or a ring's count that is 0.");
        for (long bad : new long[] {Wkb.INFINITE, 0xFFF0000000000000L}) {
            Check.fault("infinite x", roomy(), Wkb.shape(0, 1).bits(bad, 0), NUMBER, 5);
            Check.fault("infinite y", roomy(), Wkb.shape(1, 1).bits(0, bad), NUMBER, 13);
            Check.fault("both infinite", roomy(), Wkb.shape(1, 1).bits(bad, bad), NUMBER, 5);
            Check.fault("infinite x, no y", roomy(), Wkb.shape(1, 1).bits(bad, NONE), NUMBER, 5);
            Check.fault("no x, infinite y", roomy(), Wkb.shape(1, 1).bits(NONE, bad), NUMBER, 5);
            Check.fault("infinite x, y ends", roomy(), Wkb.shape(1, 1).bits(bad), NUMBER, 5);
        }
        Check.fault("no x", roomy(), Wkb.shape(0, 1).bits(NONE, 0), NUMBER, 5);
        Check.fault("no y", roomy(), Wkb.shape(0, 1).bits(0, NONE), NUMBER, 13);
        Check.fault("no x, and y ends", roomy(), Wkb.shape(0, 1).bits(NONE, NONE).cut(20), NUMBER, 5);
        Check.fault("no x and y in a line", roomy(), Wkb.shape(0, 2).number(2).xy(1, 2).bits(NONE, NONE), NUMBER, 25);
        Check.fault("no y in a ring", roomy(), Wkb.shape(0, 3).number(1).number(1).bits(0, NONE), NUMBER, 21);
        Check.fault("a ring of none", roomy(), Wkb.shape(0, 3).number(1).number(0), NUMBER, 9);
        Check.fault("a later ring of none", roomy(),
            Wkb.shape(1, 3).number(2).number(1).xy(1, 2).number(0), NUMBER, 29);
    }

    private static void ranges() {
        Check.says("5 RANGE: an x or y that is, rounded, beyond what may be.");
        for (double x : new double[] {1000000001, -1000000001, 1e15, 0x1p52, 0x1p53, -0x1p62, 0x1p63, 0x1p64, 1e300,
            -Double.MAX_VALUE}) {
            Check.fault("x " + x, roomy(), Wkb.shape(0, 1).xy(x, 0), RANGE, 5);
            Check.fault("y " + x, roomy(), Wkb.shape(1, 1).xy(0, x), RANGE, 13);
            Check.fault("x " + x + ", y ends", roomy(), Wkb.shape(1, 1).xy(x, 0).cut(20), RANGE, 5);
            Check.fault("x " + x + ", no y", roomy(), Wkb.shape(1, 1).xy(x, Double.NaN), RANGE, 5);
            Check.fault("line's x " + x, new ByteShapes(3, 9, 9), Wkb.shape(1, 2).number(2).xy(0, 0, x, 0), RANGE, 25);
        }
        for (int digits = 0; digits < 4; digits++) {
            double farthest = Double.parseDouble("1000000000.5e-" + digits);
            beyondOrNot(digits, Math.nextDown(farthest), false);
            beyondOrNot(digits, farthest, new BigDecimal(farthest).movePointRight(digits)
                .compareTo(new BigDecimal("1000000000.5")) > 0);
            beyondOrNot(digits, Math.nextUp(farthest), true);
        }
    }

    private static void beyondOrNot(int digits, double far, boolean beyond) {
        for (double x : new double[] {far, -far}) {
            ByteShapes shapes = new ByteShapes(digits, 9, 9);
            if (beyond) {
                Check.fault("x " + x, shapes, Wkb.shape(0, 1).xy(x, 0), RANGE, 5);
            } else {
                int most = x < 0 ? -1000000000 : 1000000000;
                Check.reads("x " + x, shapes, 0, Wkb.shape(0, 1).xy(x, 0), 1, 1);
                Check.points("x " + x, shapes, 0, most, 0);
            }
        }
    }

    private static void behind() {
        Check.says("8 BEHIND: something stands behind the shape.");
        for (int value : new int[] {0, 1, 255}) {
            Check.fault("POINT", roomy(), Wkb.shape(0, 1).xy(1, 2).raw(value), BEHIND, 21);
            Check.fault("empty POINT", roomy(), Wkb.shape(0, 1).bits(NONE, NONE).raw(value), BEHIND, 21);
        }
        Check.fault("POINT with a mark", roomy(), Wkb.shape(0, MARK + 1).number(1).xy(1, 2).raw(0), BEHIND, 25);
        Check.fault("no parts", roomy(), Wkb.shape(1, 7).number(0).part(0, 1).xy(1, 2), BEHIND, 9);
        Check.fault("parts", roomy(), Wkb.shape(1, 4).number(1).part(0, 1).xy(1, 2).raw(9), BEHIND, 30);
        Check.fault("rings", roomy(), Wkb.shape(1, 3).number(1).number(1).xy(1, 2).raw(9), BEHIND, 29);
        Check.fault("points, all rooms full", rooms(1, 2), Wkb.shape(1, 2).number(1).xy(1, 2).raw(9), BEHIND, 25);
    }

    /** What a shape still waited for when its bytes ended is no matter of the next one. */
    private static void afterUnfinishedShapes() {
        Check.says("3 END: the bytes end before or in what is read next");
        Wkb part = Wkb.shape(1, 7).number(9).part(0, 6).number(9).part(1, 3).number(9).number(9).xy(1, 2);
        for (int cut = 0; cut <= part.bytes().length; cut++) {
            ByteShapes shapes = new ByteShapes(0, 10, 20);
            part.cut(cut).feedTo(shapes);
            Check.badArgument("read(0)", () -> shapes.read(0));
            Check.equal("fault(0)", END, shapes.fault(0));
            Check.reads("after " + cut + " bytes", shapes, 1, Wkb.shape(0, 1).xy(cut, 3), 1, 1);
            Check.points("after " + cut + " bytes", shapes, 1, cut, 3);
        }
    }
}
