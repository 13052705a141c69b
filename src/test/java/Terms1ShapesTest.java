/** Terms: shapes and slots, plan and points. */
public final class Terms1ShapesTest {
    private static final int MOST = 1000000000;

    public static void main(String[] args) {
        noneAtFirst();
        slotsOfTheirOwn();
        noOtherSlots();
        planOfPoint();
        planOfLine();
        planOfPolygon();
        planOfParts();
        pointsInTheOrderOfThePlan();
        wholeNumbers();
        units();
        Check.done();
    }

    private static void noneAtFirst() {
        Check.says("SHAPES lie in SLOTS 0 .. 3, none at first.");
        ByteShapes shapes = new ByteShapes(0, 10, 10);
        for (int each = 0; each < 4; each++) {
            int slot = each;
            Check.equal("plan numbers of slot " + slot, 0, shapes.count(slot, 0));
            Check.equal("points of slot " + slot, 0, shapes.count(slot, 1));
            Check.noSuch("plan of slot " + slot, () -> shapes.plan(slot, 0));
            Check.noSuch("ordinate of slot " + slot, () -> shapes.ordinate(slot, 0, 0));
            Check.badState("write of slot " + slot, () -> shapes.write(slot, 0));
            for (int other = 0; other < 4; other++) {
                Check.isTrue("none in both", shapes.same(slot, other));
            }
        }
    }

    private static void slotsOfTheirOwn() {
        Check.says("SHAPES lie in SLOTS 0 .. 3");
        ByteShapes shapes = new ByteShapes(0, 10, 10);
        for (int slot = 0; slot < 4; slot++) {
            Check.reads("slot " + slot, shapes, slot, Wkb.shape(0, 1).xy(slot, 10 + slot), 1, 1);
        }
        for (int slot = 0; slot < 4; slot++) {
            Check.points("slot " + slot, shapes, slot, slot, 10 + slot);
            Check.equal("write of slot " + slot, 21, shapes.write(slot, 1));
            Check.result("slot " + slot, shapes, Wkb.shape(1, 1).xy(slot, 10 + slot));
        }
        Check.reads("slot 1 anew", shapes, 1, Wkb.shape(0, 2).number(0), 2, 0);
        Check.points("slot 1 anew", shapes, 1);
        for (int slot : new int[] {0, 2, 3}) {
            Check.points("slot " + slot + " stays", shapes, slot, slot, 10 + slot);
        }
    }

    private static void noOtherSlots() {
        Check.says("SHAPES lie in SLOTS 0 .. 3");
        for (int bad : new int[] {-1, 4, 5, -4, 256, Integer.MIN_VALUE, Integer.MAX_VALUE}) {
            ByteShapes shapes = InUse.make();
            Check.noSuch("write(" + bad + ", 0)", () -> shapes.write(bad, 0));
            Check.noSuch("same(" + bad + ", 0)", () -> shapes.same(bad, 0) ? 1 : 0);
            Check.noSuch("same(0, " + bad + ")", () -> shapes.same(0, bad) ? 1 : 0);
            Check.noSuch("plan(" + bad + ", 0)", () -> shapes.plan(bad, 0));
            Check.noSuch("ordinate(" + bad + ", 0, 0)", () -> shapes.ordinate(bad, 0, 0));
            Check.noSuch("count(" + bad + ", 0)", () -> shapes.count(bad, 0));
            Check.noSuch("read(" + bad + ")", () -> shapes.read(bad));
        }
    }

    private static void planOfPoint() {
        Check.says("POINT: 1, and how many points (1, or 0 when it is empty)");
        ByteShapes shapes = new ByteShapes(0, 10, 10);
        Check.reads("POINT", shapes, 0, Wkb.shape(0, 1).xy(3, 4), 1, 1);
        Check.points("POINT", shapes, 0, 3, 4);
        Check.reads("empty POINT", shapes, 0, Wkb.shape(0, 1).bits(Wkb.NO_NUMBER, Wkb.NO_NUMBER), 1, 0);
        Check.points("empty POINT", shapes, 0);
    }

    private static void planOfLine() {
        Check.says("LINESTRING: 2, how many points");
        for (int points = 0; points <= 5; points++) {
            ByteShapes shapes = new ByteShapes(0, 5, 2);
            Wkb line = Wkb.shape(1, 2).number(points);
            for (int i = 0; i < points; i++) {
                line.xy(i, -i);
            }
            Check.reads(points + " points", shapes, 0, line, 2, points);
            Check.equal(points + " points", points, shapes.count(0, 1));
        }
    }

    private static void planOfPolygon() {
        Check.says("POLYGON: 3, how many rings, and the points of each");
        ByteShapes shapes = new ByteShapes(0, 10, 10);
        Check.reads("no rings", shapes, 0, Wkb.shape(0, 3).number(0), 3, 0);
        Check.points("no rings", shapes, 0);
        Check.reads("one ring", shapes, 0, Wkb.shape(0, 3).number(1).number(1).xy(1, 2), 3, 1, 1);
        Check.reads("three rings", shapes, 0, Wkb.shape(0, 3).number(3)
            .number(2).xy(1, 2, 3, 4).number(1).xy(5, 6).number(3).xy(7, 8, 9, 10, 11, 12), 3, 3, 2, 1, 3);
        Check.points("three rings", shapes, 0, 1, 2, 3, 4, 5, 6, 7, 8, 9, 10, 11, 12);
    }

    private static void planOfParts() {
        Check.says("MULTIPOINT 4, MULTILINESTRING 5, MULTIPOLYGON 6, GEOMETRYCOLLECTION 7: this, how many parts, "
            + "and the plan of each");
        ByteShapes shapes = new ByteShapes(0, 10, 20);
        for (int kind = 4; kind <= 7; kind++) {
            Check.reads("no parts of " + kind, shapes, 0, Wkb.shape(0, kind).number(0), kind, 0);
            Check.points("no parts of " + kind, shapes, 0);
        }
        Check.reads("MULTIPOINT", shapes, 0, Wkb.shape(0, 4).number(3).part(0, 1).xy(1, 2)
            .part(0, 1).bits(Wkb.NO_NUMBER, Wkb.NO_NUMBER).part(0, 1).xy(3, 4), 4, 3, 1, 1, 1, 0, 1, 1);
        Check.reads("MULTILINESTRING", shapes, 0, Wkb.shape(0, 5).number(2).part(0, 2).number(0)
            .part(0, 2).number(2).xy(1, 2, 3, 4), 5, 2, 2, 0, 2, 2);
        Check.reads("MULTIPOLYGON", shapes, 0, Wkb.shape(0, 6).number(2).part(0, 3).number(0)
            .part(0, 3).number(2).number(1).xy(1, 2).number(1).xy(3, 4), 6, 2, 3, 0, 3, 2, 1, 1);
        Check.reads("GEOMETRYCOLLECTION", shapes, 0, Wkb.shape(0, 7).number(3)
            .part(0, 7).number(1).part(0, 7).number(0)
            .part(0, 6).number(1).part(0, 3).number(1).number(1).xy(1, 2)
            .part(0, 1).xy(3, 4), 7, 3, 7, 1, 7, 0, 6, 1, 3, 1, 1, 1, 1);
    }

    private static void pointsInTheOrderOfThePlan() {
        Check.says("and by its points, x and y each, in the order of the plan");
        ByteShapes shapes = new ByteShapes(0, 10, 20);
        Wkb all = Wkb.shape(1, 7).number(4)
            .part(0, 6).number(1).part(1, 3).number(2).number(1).xy(1, -1).number(1).xy(2, -2)
            .part(0, 1).bits(Wkb.NO_NUMBER, Wkb.NO_NUMBER)
            .part(1, 4).number(1).part(0, 1).xy(3, -3)
            .part(0, 2).number(2).xy(4, -4, 5, -5);
        Check.reads("all kinds", shapes, 3, all, 7, 4, 6, 1, 3, 2, 1, 1, 1, 0, 4, 1, 1, 1, 2, 2);
        Check.points("all kinds", shapes, 3, 1, -1, 2, -2, 3, -3, 4, -4, 5, -5);
    }

    private static void wholeNumbers() {
        Check.says("x and y are whole numbers from -1000000000 to 1000000000");
        for (int digits = 0; digits < 4; digits++) {
            double far = Double.parseDouble(MOST + "e-" + digits);
            double beyond = Double.parseDouble(MOST + 1 + "e-" + digits);
            ByteShapes shapes = new ByteShapes(digits, 2, 2);
            Check.reads("the farthest", shapes, 0, Wkb.shape(0, 2).number(2).xy(far, -far, -far, far), 2, 2);
            Check.points("the farthest", shapes, 0, MOST, -MOST, -MOST, MOST);
            Check.fault("x one more", shapes, Wkb.shape(0, 1).xy(beyond, 0), 5, 5);
            Check.fault("x one less", shapes, Wkb.shape(0, 1).xy(-beyond, 0), 5, 5);
            Check.fault("y one more", shapes, Wkb.shape(0, 1).xy(0, beyond), 5, 13);
            Check.fault("y one less", shapes, Wkb.shape(0, 1).xy(0, -beyond), 5, 13);
        }
    }

    private static void units() {
        Check.says("in units of which one is 1, 0.1, 0.01 or 0.001 (as 0 to 3 DIGITS are kept)");
        int[] units = {1, 10, 100, 1000};
        for (int digits = 0; digits < 4; digits++) {
            ByteShapes shapes = new ByteShapes(digits, 2, 2);
            double one = Double.parseDouble("1e-" + digits);
            Check.reads("one unit", shapes, 0, Wkb.shape(0, 2).number(2).xy(one, -one, 1, -1), 2, 2);
            Check.points("one unit", shapes, 0, 1, -1, units[digits], -units[digits]);
        }
    }
}
