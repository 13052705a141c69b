import java.math.BigDecimal;
import java.math.RoundingMode;

/** read: the tape into a slot, exactly. */
public final class Promise04ReadTest {
    private static final double FAR = 1000000000;

    public static void main(String[] args) {
        kinds();
        partsWithOrdersOfTheirOwn();
        marks();
        emptyPoints();
        deepest();
        rounding();
        roundingOfEverySize();
        edgesOfTheRange();
        slots();
        emptiesTheTape();
        afterUnfinishedShapes();
        Check.done();
    }

    private static void kinds() {
        for (int order = 0; order <= 1; order++) {
            ByteShapes shapes = new ByteShapes(0, 10, 20);
            Check.reads("POINT", shapes, 0, Wkb.shape(order, 1).xy(1, 2), 1, 1);
            Check.points("POINT", shapes, 0, 1, 2);
            Check.reads("LINESTRING", shapes, 1, Wkb.shape(order, 2).number(2).xy(1, 2, 3, 4), 2, 2);
            Check.points("LINESTRING", shapes, 1, 1, 2, 3, 4);
            Check.reads("LINESTRING of none", shapes, 1, Wkb.shape(order, 2).number(0), 2, 0);
            Check.points("LINESTRING of none", shapes, 1);
            Check.reads("POLYGON", shapes, 2,
                Wkb.shape(order, 3).number(2).number(1).xy(1, 2).number(2).xy(3, 4, 5, 6), 3, 2, 1, 2);
            Check.points("POLYGON", shapes, 2, 1, 2, 3, 4, 5, 6);
            for (int kind = 3; kind <= 7; kind++) {
                Check.reads("none in " + kind, shapes, 3, Wkb.shape(order, kind).number(0), kind, 0);
            }
        }
    }

    private static void partsWithOrdersOfTheirOwn() {
        ByteShapes shapes = new ByteShapes(0, 20, 40);
        Check.reads("MULTIPOINT", shapes, 0,
            Wkb.shape(0, 4).number(3).part(1, 1).xy(1, 2).part(0, 1).xy(3, 4).part(1, 1).xy(5, 6),
            4, 3, 1, 1, 1, 1, 1, 1);
        Check.points("MULTIPOINT", shapes, 0, 1, 2, 3, 4, 5, 6);
        Check.reads("MULTILINESTRING", shapes, 1,
            Wkb.shape(1, 5).number(2).part(0, 2).number(1).xy(1, 2).part(1, 2).number(0), 5, 2, 2, 1, 2, 0);
        Check.reads("MULTIPOLYGON", shapes, 2,
            Wkb.shape(1, 6).number(2).part(0, 3).number(0).part(1, 3).number(1).number(1).xy(8, 9),
            6, 2, 3, 0, 3, 1, 1);
        Wkb all = Wkb.shape(1, 7).number(4).part(0, 7).number(1).part(1, 7).number(0)
            .part(0, 6).number(1).part(1, 3).number(1).number(1).xy(1, -1)
            .part(1, 4).number(1).part(0, 1).xy(2, -2).part(0, 2).number(2).xy(3, -3, 4, -4);
        Check.reads("GEOMETRYCOLLECTION", shapes, 3, all, 7, 4, 7, 1, 7, 0, 6, 1, 3, 1, 1, 4, 1, 1, 1, 2, 2);
        Check.points("GEOMETRYCOLLECTION", shapes, 3, 1, -1, 2, -2, 3, -3, 4, -4);
    }

    private static void marks() {
        ByteShapes shapes = new ByteShapes(0, 10, 10);
        Check.reads("a mark", shapes, 0, Wkb.shape(1, 0x20000001L).number(4326).xy(1, 2), 1, 1);
        Check.points("a mark", shapes, 0, 1, 2);
        Check.reads("marks of parts", shapes, 0, Wkb.shape(0, 0x20000005L).number(-1)
            .number(1).part(1, 0x20000002L).number(7).number(1).xy(3, 4), 5, 1, 2, 1);
        Check.points("marks of parts", shapes, 0, 3, 4);
    }

    private static void emptyPoints() {
        ByteShapes shapes = new ByteShapes(0, 1, 20);
        long[] none = {Wkb.NO_NUMBER, 0x7FF0000000000001L, 0xFFF8000000000000L, -1L, 0x7FFFFFFFFFFFFFFFL,
            0xFFF0000000000001L};
        for (long x : none) {
            for (long y : none) {
                Check.reads("empty POINT", shapes, 0, Wkb.shape(0, 1).bits(x, y), 1, 0);
                Check.points("empty POINT", shapes, 0);
            }
        }
        Check.reads("empty POINTs where no point has room", shapes, 1,
            Wkb.shape(0, 4).number(3).part(0, 1).xy(1, 2).part(1, 1).bits(Wkb.NO_NUMBER, -1L)
                .part(0, 1).bits(-1L, Wkb.NO_NUMBER), 4, 3, 1, 1, 1, 0, 1, 0);
        Check.points("the one point", shapes, 1, 1, 2);
    }

    private static void deepest() {
        ByteShapes shapes = new ByteShapes(0, 10, 4096);
        Wkb bytes = Wkb.shape(0, 7).number(1);
        int[] plan = new int[2 * 50 + 5];
        for (int i = 0; i < 50; i++) {
            plan[2 * i] = 7;
            plan[2 * i + 1] = 1;
            if (i > 0) {
                bytes.part(i % 2, 7).number(1);
            }
        }
        bytes.part(0, 6).number(1).part(1, 3).number(1).number(1).xy(1, 2);
        System.arraycopy(new int[] {6, 1, 3, 1, 1}, 0, plan, 100, 5);
        Check.reads("a MULTIPOLYGON in fifty", shapes, 0, bytes, plan);
        Wkb side = Wkb.shape(0, 7).number(60);
        int[] sidePlan = new int[122];
        sidePlan[0] = 7;
        sidePlan[1] = 60;
        for (int i = 0; i < 60; i++) {
            side.part(0, 7).number(0);
            sidePlan[2 + 2 * i] = 7;
        }
        Check.reads("sixty side by side", shapes, 0, side, sidePlan);
    }

    private static void rounding() {
        rounds(0, 0.5, 0);
        rounds(0, 1.5, 2);
        rounds(0, 2.5, 2);
        rounds(0, -0.5, 0);
        rounds(0, -1.5, -2);
        rounds(0, -2.5, -2);
        rounds(0, Math.nextUp(0.5), 1);
        rounds(0, Math.nextDown(0.5), 0);
        rounds(0, Math.nextUp(2.5), 3);
        rounds(0, Math.nextDown(1.5), 1);
        rounds(0, -0.0, 0);
        rounds(0, Double.MIN_VALUE, 0);
        rounds(3, -Double.MIN_VALUE, 0);
        rounds(3, Double.MIN_NORMAL, 0);
        rounds(3, Math.nextDown(Double.MIN_NORMAL), 0);
        rounds(1, 0.25, 2);
        rounds(1, 0.75, 8);
        rounds(1, -0.25, -2);
        rounds(1, 0.05, 1);
        rounds(1, 0.15, 1);
        rounds(1, 0.35, 3);
        rounds(2, 0.125, 12);
        rounds(2, 0.375, 38);
        rounds(2, 1.005, 100);
        rounds(2, 0.005, 1);
        rounds(3, 0.0625, 62);
        rounds(3, 0.1875, 188);
        rounds(3, 0.0005, 1);
        rounds(3, 1.0005, 1000);
        rounds(3, 0x1.0p-11, 0);
        rounds(3, 999999.9995, 1000000000);
    }

    /** Each power of two and its neighbours, from far too small to the edge of the range. */
    private static void roundingOfEverySize() {
        for (int digits = 0; digits < 4; digits++) {
            for (int power = -80; power < 20; power++) {
                double x = Math.scalb(1.0, power);
                for (double near : new double[] {Math.nextDown(x), x, Math.nextUp(x), -1.5 * x}) {
                    rounds(digits, near, new BigDecimal(near).movePointRight(digits)
                        .setScale(0, RoundingMode.HALF_EVEN).intValueExact());
                }
            }
        }
    }

    private static void rounds(int digits, double x, int due) {
        ByteShapes shapes = new ByteShapes(digits, 1, 2);
        String what = x + " with " + digits + " digits";
        Check.reads(what, shapes, 0, Wkb.shape(1, 1).xy(x, x), 1, 1);
        Check.points(what, shapes, 0, due, due);
    }

    private static void edgesOfTheRange() {
        int most = 1000000000;
        rounds(0, FAR, most);
        rounds(0, -FAR, -most);
        rounds(0, FAR + 0.5, most);
        rounds(0, -FAR - 0.5, -most);
        rounds(0, FAR - 0.5, most);
        rounds(1, FAR / 10, most);
        rounds(2, -FAR / 100, -most);
        rounds(3, FAR / 1000, most);
        rounds(3, FAR / 1000 + 0.0004, most);
        ByteShapes shapes = new ByteShapes(0, 1, 2);
        Check.fault("just beyond", shapes, Wkb.shape(0, 1).xy(Math.nextUp(FAR + 0.5), 0), 5, 5);
        Check.fault("just beyond", shapes, Wkb.shape(0, 1).xy(0, Math.nextDown(-FAR - 0.5)), 5, 13);
    }

    private static void slots() {
        ByteShapes shapes = new ByteShapes(0, 10, 10);
        for (int slot = 0; slot < 4; slot++) {
            Check.reads("slot " + slot, shapes, slot, Wkb.shape(0, 1).xy(slot, 10 + slot), 1, 1);
        }
        for (int slot = 0; slot < 4; slot++) {
            Check.points("slot " + slot, shapes, slot, slot, 10 + slot);
        }
        Wkb.shape(0, 1).xy(7, 8).feedTo(shapes);
        for (int slot : new int[] {-1, 4, Integer.MIN_VALUE, Integer.MAX_VALUE}) {
            Check.noSuch("read(" + slot + ")", () -> shapes.read(slot));
        }
        Check.equal("nothing was read", 21, shapes.count(0, 2));
        Check.equal("read", 1, shapes.read(2));
        Check.points("anew", shapes, 2, 7, 8);
    }

    private static void emptiesTheTape() {
        ByteShapes shapes = new ByteShapes(0, 10, 10);
        Wkb.shape(0, 1).xy(1, 2).feedTo(shapes);
        shapes.read(0);
        Check.equal("the tape", 0, shapes.count(0, 2));
        Wkb.bytes(2).feedTo(shapes);
        Check.badArgument("read(0)", () -> shapes.read(0));
        Check.equal("the tape", 0, shapes.count(0, 2));
        Check.equal("the slot has none", 0, shapes.count(0, 0));
        Check.equal("the slot has no points", 0, shapes.count(0, 1));
        Check.badArgument("read(1) of nothing", () -> shapes.read(1));
    }

    /** What a shape still waited for when its bytes ended is no matter of the next one. */
    private static void afterUnfinishedShapes() {
        ByteShapes shapes = new ByteShapes(0, 10, 20);
        Wkb part = Wkb.shape(1, 7).number(9).part(0, 6).number(9).part(1, 3).number(9).number(9).xy(1, 2);
        for (int cut = 0; cut <= part.bytes().length; cut++) {
            part.cut(cut).feedTo(shapes);
            Check.badArgument("read(0)", () -> shapes.read(0));
            Check.reads("after " + cut + " bytes", shapes, 1, Wkb.shape(0, 1).xy(cut, 3), 1, 1);
            Check.points("after " + cut + " bytes", shapes, 1, cut, 3);
        }
    }
}
