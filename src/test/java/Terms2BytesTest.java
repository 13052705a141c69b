import java.math.BigDecimal;
import java.math.RoundingMode;

/** Terms: the bytes of a shape. */
public final class Terms2BytesTest {
    private static final long NONE = Wkb.NO_NUMBER;
    private static final long SIGN = 1L << 63;

    public static void main(String[] args) {
        orders();
        ordersOfParts();
        typesWithoutSign();
        moreCoordinates();
        markBit();
        kindsOfTypes();
        marks();
        countsWithoutSign();
        contentOfPoint();
        contentOfLine();
        contentOfPolygon();
        contentOfMulti();
        contentOfCollection();
        coordinates();
        bitsOfFractions();
        smallestFractions();
        ordinaryFractions();
        noFractions();
        emptyPoints();
        rounding();
        roundingOfEverySize();
        oneShape();
        Check.done();
    }

    private static ByteShapes roomy() {
        return new ByteShapes(0, 20, 40);
    }

    private static void orders() {
        Check.says("its ORDER: 0, what follows has the highest byte of each number first, or 1, the lowest");
        ByteShapes shapes = roomy();
        Check.reads("highest first", shapes, 0, Wkb.bytes(0, 0x20, 0, 0, 3, 9, 9, 9, 9, 0, 0, 0, 1, 0, 0, 0, 1,
            0x40, 0x59, 0, 0, 0, 0, 0, 0, 0xC0, 0x08, 0, 0, 0, 0, 0, 0), 3, 1, 1);
        Check.points("highest first", shapes, 0, 100, -3);
        Check.reads("lowest first", shapes, 0, Wkb.bytes(1, 3, 0, 0, 0x20, 9, 9, 9, 9, 1, 0, 0, 0, 1, 0, 0, 0,
            0, 0, 0, 0, 0, 0, 0x59, 0x40, 0, 0, 0, 0, 0, 0, 0x08, 0xC0), 3, 1, 1);
        Check.points("lowest first", shapes, 0, 100, -3);
        Check.fault("a type in the other order", shapes, Wkb.bytes(0, 1, 0, 0, 0), 2, 1);
        Check.fault("a type in the other order", shapes, Wkb.bytes(1, 0, 0, 0, 1), 2, 1);
    }

    private static void ordersOfParts() {
        Check.says("(a part has an order of its own)");
        for (int order = 0; order <= 1; order++) {
            int other = 1 - order;
            ByteShapes shapes = roomy();
            Check.reads("MULTIPOINT", shapes, 0, Wkb.shape(order, 4).number(3).part(other, 1).xy(1, 2)
                .part(order, 1).xy(3, 4).part(other, 1).xy(5, 6), 4, 3, 1, 1, 1, 1, 1, 1);
            Check.points("MULTIPOINT", shapes, 0, 1, 2, 3, 4, 5, 6);
            Check.reads("parts of parts", shapes, 0, Wkb.shape(order, 7).number(2)
                .part(other, 6).number(2)
                .part(order, 3).number(1).number(1).xy(1, 2)
                .part(other, 3).number(2).number(1).xy(3, 4).number(1).xy(5, 6)
                .part(order, 5).number(1).part(other, 2).number(1).xy(7, 8),
                7, 2, 6, 2, 3, 1, 1, 3, 2, 1, 1, 5, 1, 2, 1);
            Check.points("parts of parts", shapes, 0, 1, 2, 3, 4, 5, 6, 7, 8);
        }
    }

    private static void typesWithoutSign() {
        Check.says("its TYPE, four bytes: a number without a sign");
        for (int order = 0; order <= 1; order++) {
            Check.fault("with bit 31", roomy(), Wkb.shape(order, 0x80000001L), 9, 1);
            Check.fault("all bits", roomy(), Wkb.shape(order, 0xFFFFFFFFL), 2, 1);
            Check.fault("minus 1000 and 1", roomy(), Wkb.shape(order, 1 - 1000), 2, 1);
            Check.fault("minus a POINT", roomy(), Wkb.shape(order, -1), 2, 1);
            for (int cut = 1; cut < 5; cut++) {
                Check.fault("no four bytes", roomy(), Wkb.shape(order, 1).cut(cut), 3, 1);
            }
        }
    }

    private static void moreCoordinates() {
        Check.says("whose bit 31 or 30 says that there are more coordinates");
        for (int kind = 1; kind <= 7; kind++) {
            for (long bits : new long[] {0x80000000L, 0x40000000L, 0xC0000000L, 0xA0000000L, 0x60000000L,
                0xE0000000L}) {
                Check.fault(kind + " with " + bits, roomy(), Wkb.shape(0, bits + kind).number(0).number(0), 9, 1);
            }
        }
    }

    private static void markBit() {
        Check.says("bit 29 that a mark follows");
        ByteShapes shapes = roomy();
        for (int kind = 2; kind <= 7; kind++) {
            Check.reads("a mark of " + kind, shapes, 0, Wkb.shape(0, 0x20000000L + kind).number(1).number(0), kind, 0);
            Check.fault("no mark of " + kind, shapes, Wkb.shape(0, kind).number(0).number(0), 8, 9);
            Check.fault("bit 28 of " + kind, shapes, Wkb.shape(0, 0x10000000L + kind).number(1).number(0), 2, 1);
        }
        Check.reads("a mark of a POINT", shapes, 0, Wkb.shape(1, 0x20000001L).number(4326).xy(5, 6), 1, 1);
        Check.points("a mark of a POINT", shapes, 0, 5, 6);
    }

    private static void kindsOfTypes() {
        Check.says("the rest being the kind (1 .. 7), or 1000, 2000 or 3000 more (more coordinates)");
        for (int thousands = 0; thousands <= 5; thousands++) {
            for (int kind = 0; kind <= 9; kind++) {
                boolean known = kind >= 1 && kind <= 7 && thousands <= 3;
                if (known && thousands == 0) {
                    int after = kind == 1 ? 16 : 4;
                    Check.reads("type " + kind, roomy(), 0,
                        Wkb.shape(0, kind).raw(new int[after]), kind, kind == 1 ? 1 : 0);
                } else {
                    int type = 1000 * thousands + kind;
                    Check.fault("type " + type, roomy(), Wkb.shape(0, type).raw(new int[16]), known ? 9 : 2, 1);
                    Check.fault("type " + type + " with a mark", roomy(),
                        Wkb.shape(1, 0x20000000L + type), known ? 9 : 2, 1);
                }
            }
        }
        for (int type : new int[] {999, 100, 107, 10001, 65537, 0x01000000, 0x1FFFFFFF, 0x10000001}) {
            Check.fault("type " + type, roomy(), Wkb.shape(0, type), 2, 1);
        }
    }

    private static void marks() {
        Check.says("the mark, if one follows: four bytes, passed over");
        ByteShapes shapes = roomy();
        for (long mark : new long[] {0, 1, 2, 4326, 0x7FFFFFFFL, 0x80000000L, 0xFFFFFFFFL}) {
            Check.reads("mark " + mark, shapes, 0, Wkb.shape(0, 0x20000002L).number(mark).number(1).xy(3, 4), 2, 1);
            Check.points("mark " + mark, shapes, 0, 3, 4);
        }
        Check.reads("marks of parts", shapes, 0, Wkb.shape(0, 0x20000005L).number(-1).number(2)
            .part(1, 0x20000002L).number(7).number(1).xy(3, 4).part(0, 2).number(0), 5, 2, 2, 1, 2, 0);
        for (int cut = 5; cut < 9; cut++) {
            Check.fault("no four bytes", shapes, Wkb.shape(0, 0x20000002L).number(7).cut(cut), 3, 5);
        }
    }

    private static void countsWithoutSign() {
        Check.says("COUNTS being four bytes, without a sign");
        for (long count : new long[] {1, 0x7FFFFFFFL, 0x80000000L, 0x80000001L, 0xFFFFFFFFL}) {
            for (int order = 0; order <= 1; order++) {
                for (int kind = 2; kind <= 7; kind++) {
                    Check.fault(count + " of " + kind, roomy(), Wkb.shape(order, kind).number(count), 3, 9);
                }
                Check.fault(count + " of a ring", roomy(), Wkb.shape(order, 3).number(1).number(count), 3, 13);
            }
        }
        Check.fault("so many, two there", roomy(), Wkb.shape(0, 2).number(0xFFFFFFFFL).xy(1, 2, 3, 4), 3, 41);
        Check.fault("so many, room for two", new ByteShapes(0, 2, 4),
            Wkb.shape(0, 2).number(0x80000000L).xy(1, 2, 3, 4), 7, 41);
        Check.fault("so many rings, room for two", new ByteShapes(0, 9, 4),
            Wkb.shape(0, 3).number(0xFFFFFFFFL).number(1).xy(1, 2).number(1).xy(1, 2), 7, 49);
    }

    private static void contentOfPoint() {
        Check.says("POINT: a COORDINATE.");
        Check.reads("POINT", roomy(), 0, Wkb.shape(0, 1).xy(1, 2), 1, 1);
        Check.fault("no coordinate", roomy(), Wkb.shape(0, 1), 3, 5);
        Check.fault("two coordinates", roomy(), Wkb.shape(0, 1).xy(1, 2, 3, 4), 8, 21);
    }

    private static void contentOfLine() {
        Check.says("LINESTRING: a count, coordinates.");
        Check.reads("none", roomy(), 0, Wkb.shape(0, 2).number(0), 2, 0);
        Check.reads("one", roomy(), 0, Wkb.shape(0, 2).number(1).xy(1, 2), 2, 1);
        Check.fault("no count", roomy(), Wkb.shape(0, 2), 3, 5);
        Check.fault("one too few", roomy(), Wkb.shape(0, 2).number(2).xy(1, 2), 3, 25);
        Check.fault("one too many", roomy(), Wkb.shape(0, 2).number(1).xy(1, 2, 3, 4), 8, 25);
    }

    private static void contentOfPolygon() {
        Check.says("POLYGON: a count of rings, of each a count (not 0) and its coordinates.");
        Check.reads("no rings", roomy(), 0, Wkb.shape(0, 3).number(0), 3, 0);
        Check.reads("a ring of one", roomy(), 0, Wkb.shape(0, 3).number(1).number(1).xy(1, 2), 3, 1, 1);
        Check.fault("a ring of none", roomy(), Wkb.shape(0, 3).number(1).number(0), 4, 9);
        Check.fault("a second ring of none", roomy(), Wkb.shape(0, 3).number(2).number(1).xy(1, 2).number(0), 4, 29);
        Check.fault("a ring too few", roomy(), Wkb.shape(0, 3).number(2).number(1).xy(1, 2), 3, 29);
        Check.fault("a ring too many", roomy(), Wkb.shape(0, 3).number(0).number(1).xy(1, 2), 8, 9);
    }

    private static void contentOfMulti() {
        Check.says("MULTI..: a count, and parts, which are shapes of the kind 3 less.");
        for (int whole = 4; whole <= 6; whole++) {
            Check.reads("no parts", roomy(), 0, Wkb.shape(0, whole).number(0), whole, 0);
            for (int kind = 1; kind <= 7; kind++) {
                Wkb bytes = Wkb.shape(0, whole).number(1).part(1, kind).raw(new int[kind == 1 ? 16 : 4]);
                if (kind == whole - 3) {
                    Check.reads(kind + " in " + whole, roomy(), 0, bytes, whole, 1, kind, kind == 1 ? 1 : 0);
                } else {
                    Check.fault(kind + " in " + whole, roomy(), bytes, 2, 10);
                }
            }
            Check.fault("a part too few", roomy(), Wkb.shape(0, whole).number(1), 3, 9);
            Check.fault("a part too many", roomy(), Wkb.shape(0, whole).number(0).part(0, whole - 3), 8, 9);
        }
        Check.fault("a second part of another kind", roomy(),
            Wkb.shape(0, 5).number(2).part(0, 2).number(0).part(0, 3).number(0), 2, 19);
        Check.fault("in a part of a collection", roomy(),
            Wkb.shape(0, 7).number(1).part(0, 4).number(1).part(0, 2).number(0), 2, 19);
        Check.reads("any kind behind a part of a collection", roomy(), 0,
            Wkb.shape(0, 7).number(2).part(0, 5).number(1).part(0, 2).number(0).part(0, 3).number(0),
            7, 2, 5, 1, 2, 0, 3, 0);
    }

    private static void contentOfCollection() {
        Check.says("GEOMETRYCOLLECTION: a count, and shapes of any kinds.");
        Check.reads("no parts", roomy(), 0, Wkb.shape(0, 7).number(0), 7, 0);
        Wkb all = Wkb.shape(0, 7).number(7).part(1, 1).xy(1, 2);
        int[] plan = {7, 7, 1, 1, 2, 0, 3, 0, 4, 0, 5, 0, 6, 0, 7, 0};
        for (int kind = 2; kind <= 7; kind++) {
            all.part(kind % 2, kind).number(0);
        }
        Check.reads("each kind", roomy(), 0, all, plan);
        Check.fault("kind 0", roomy(), Wkb.shape(0, 7).number(1).part(0, 0), 2, 10);
        Check.fault("kind 8", roomy(), Wkb.shape(0, 7).number(1).part(0, 8), 2, 10);
    }

    private static void coordinates() {
        Check.says("A coordinate: x and y, eight bytes each");
        for (int order = 0; order <= 1; order++) {
            ByteShapes shapes = roomy();
            Check.reads("x and y", shapes, 0, Wkb.shape(order, 2).number(2).xy(1, 2, 3, 4), 2, 2);
            Check.points("x and y", shapes, 0, 1, 2, 3, 4);
            Check.fault("seven bytes", shapes, Wkb.shape(order, 1).xy(1).cut(12), 3, 5);
            Check.fault("eight bytes", shapes, Wkb.shape(order, 1).xy(1), 3, 13);
            Check.fault("fifteen bytes", shapes, Wkb.shape(order, 1).xy(1, 2).cut(20), 3, 13);
            Check.fault("seventeen bytes", shapes, Wkb.shape(order, 1).xy(1, 2).raw(0), 8, 21);
        }
    }

    private static void reads(int digits, long bits, int due) {
        ByteShapes shapes = new ByteShapes(digits, 1, 2);
        String what = Long.toHexString(bits) + " with " + digits + " digits";
        Check.reads(what, shapes, 0, Wkb.shape(1, 1).bits(bits, bits ^ SIGN), 1, 1);
        Check.points(what, shapes, 0, due, -due);
    }

    private static void bitsOfFractions() {
        Check.says("a binary fraction of 64 bits (bit 63 the sign, 52 to 62 E, 0 to 51 F");
        reads(0, 0x3FF0000000000000L, 1);
        reads(0, 0xBFF0000000000000L, -1);
        reads(0, 0x4000000000000000L, 2);
        reads(0, 0x4008000000000000L, 3);
        reads(0, 0x400FFFFFFFFFFFFFL, 4);
        reads(3, 0x3FF0000000000001L, 1000);
    }

    private static void smallestFractions() {
        Check.says("E 0: F * 2 to the power -1074");
        for (int digits = 0; digits < 4; digits++) {
            reads(digits, 0, 0);
            reads(digits, 1, 0);
            reads(digits, 0x000FFFFFFFFFFFFFL, 0);
            reads(digits, 0x0008000000000000L, 0);
        }
    }

    private static void ordinaryFractions() {
        Check.says("1 to 2046: (2 to the power 52 + F) * 2 to the power E - 1075");
        reads(3, 0x0010000000000000L, 0);
        reads(3, 0x001FFFFFFFFFFFFFL, 0);
        reads(0, (long) (1023 + 29) << 52, 1 << 29);
        reads(0, (long) (1023 + 29) << 52 | 1L << 23, (1 << 29) + 1);
        reads(0, Double.doubleToRawLongBits(123456789), 123456789);
        for (int e : new int[] {1023 + 30, 1074, 1075, 1076, 1085, 1086, 1138, 1139, 2045, 2046}) {
            for (int digits = 0; digits < 4; digits++) {
                ByteShapes shapes = new ByteShapes(digits, 1, 2);
                Check.fault("E " + e, shapes, Wkb.shape(0, 1).bits((long) e << 52, 0), 5, 5);
                Check.fault("E " + e, shapes, Wkb.shape(0, 1).bits(0, SIGN | (long) e << 52 | (1L << 52) - 1), 5, 13);
            }
        }
    }

    private static void noFractions() {
        Check.says("2047: infinite with F 0, NO NUMBER with another F");
        long infinite = Wkb.INFINITE;
        for (long sign : new long[] {0, SIGN}) {
            Check.fault("infinite", roomy(), Wkb.shape(0, 1).bits(sign | infinite, 0), 4, 5);
            Check.fault("both infinite: no empty POINT", roomy(),
                Wkb.shape(0, 1).bits(infinite, sign | infinite), 4, 5);
            for (long f : new long[] {1, 1L << 31, 1L << 32, 1L << 51, (1L << 52) - 1}) {
                Check.fault("no number", roomy(), Wkb.shape(0, 1).bits(0, sign | infinite | f), 4, 13);
                Check.reads("no numbers: an empty POINT", roomy(), 0,
                    Wkb.shape(0, 1).bits(NONE, sign | infinite | f), 1, 0);
                Check.reads("no numbers: an empty POINT", roomy(), 0,
                    Wkb.shape(0, 1).bits(sign | infinite | f, NONE), 1, 0);
            }
        }
    }

    private static void emptyPoints() {
        Check.says("a POINT of which both are there and no numbers is empty");
        ByteShapes shapes = new ByteShapes(0, 2, 20);
        for (int order = 0; order <= 1; order++) {
            Check.reads("both", shapes, 0, Wkb.shape(order, 1).bits(NONE, NONE), 1, 0);
            Check.points("both", shapes, 0);
            Check.fault("x alone", shapes, Wkb.shape(order, 1).bits(NONE).xy(1), 4, 5);
            Check.fault("y alone", shapes, Wkb.shape(order, 1).xy(1).bits(NONE), 4, 13);
            for (int cut = 13; cut < 21; cut++) {
                Check.fault("y is not there", shapes, Wkb.shape(order, 1).bits(NONE, NONE).cut(cut), 4, 5);
            }
            for (int cut = 5; cut < 13; cut++) {
                Check.fault("x is not there", shapes, Wkb.shape(order, 1).bits(NONE, NONE).cut(cut), 3, 5);
            }
        }
        Check.fault("no POINT: a line", shapes, Wkb.shape(0, 2).number(1).bits(NONE, NONE), 4, 9);
        Check.fault("no POINT: a ring", shapes, Wkb.shape(0, 3).number(1).number(1).bits(NONE, NONE), 4, 13);
        Check.reads("with a mark", shapes, 0, Wkb.shape(0, 0x20000001L).number(1).bits(NONE, NONE), 1, 0);
        Check.reads("as a part", shapes, 0, Wkb.shape(0, 4).number(3).part(0, 1).xy(1, 2)
            .part(1, 1).bits(NONE, -1L).part(0, 1).xy(3, 4), 4, 3, 1, 1, 1, 0, 1, 1);
        Check.points("as a part", shapes, 0, 1, 2, 3, 4);
    }

    private static void rounding() {
        Check.says("An x or y times 10, 100 or 1000, as digits are kept, is rounded to the nearest whole number, "
            + "exactly, of two as near to the even one.");
        double[] halves = {0.5, 1.5, 2.5, 3.5, 99999.5, 999999998.5, 999999999.5, 1000000000.5};
        int[] even = {0, 2, 2, 4, 100000, 999999998, 1000000000, 1000000000};
        for (int i = 0; i < halves.length; i++) {
            rounds(0, halves[i], even[i]);
        }
        rounds(0, Math.nextUp(0.5), 1);
        rounds(0, Math.nextDown(0.5), 0);
        rounds(0, Math.nextUp(2.5), 3);
        rounds(0, Math.nextDown(1.5), 1);
        rounds(1, 0.25, 2);
        rounds(1, 0.75, 8);
        rounds(2, 0.125, 12);
        rounds(2, 0.375, 38);
        rounds(3, 0.0625, 62);
        rounds(3, 0.1875, 188);
        // Times ten in binary fractions, these would be halves.
        rounds(1, 0.05, 1);
        rounds(1, 0.15, 1);
        rounds(1, 0.35, 3);
        rounds(2, 1.005, 100);
        rounds(2, 0.005, 1);
        rounds(3, 0.0005, 1);
        rounds(3, 1.0005, 1000);
        rounds(3, 0x1.0p-11, 0);
        rounds(3, 999999.9995, 1000000000);
    }

    /** Each power of two and its neighbours, from far too small to the edge of the range. */
    private static void roundingOfEverySize() {
        for (int digits = 0; digits < 4; digits++) {
            for (int power = -80; power < 20; power++) {
                double x = Math.scalb(1.0, power);
                for (double near : new double[] {Math.nextDown(x), x, Math.nextUp(x), 1.5 * x}) {
                    rounds(digits, near, new BigDecimal(near).movePointRight(digits)
                        .setScale(0, RoundingMode.HALF_EVEN).intValueExact());
                }
            }
        }
    }

    private static void rounds(int digits, double x, int due) {
        reads(digits, Double.doubleToRawLongBits(x), due);
    }

    private static void oneShape() {
        Check.says("The bytes are one shape.");
        Check.fault("none", roomy(), new Wkb(), 3, 0);
        Check.reads("one", roomy(), 0, Wkb.shape(0, 1).xy(1, 2), 1, 1);
        Check.fault("two", roomy(), Wkb.shape(0, 1).xy(1, 2).part(0, 1).xy(1, 2), 8, 21);
    }
}
