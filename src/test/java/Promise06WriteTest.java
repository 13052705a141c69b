/** Promise 6: write. What is written is tested with the terms. */
public final class Promise06WriteTest {
    private static final int[] NO_SLOTS = {-1, 4, 5, Integer.MIN_VALUE, Integer.MAX_VALUE};
    private static final int[] NO_ORDERS = {-1, 2, 256, Integer.MIN_VALUE, Integer.MAX_VALUE};

    public static void main(String[] args) {
        theResult();
        inPlaceOfTheLast();
        changesTheResultAlone();
        noSuchSlot();
        anotherOrder();
        noShape();
        noShapeAfterAFault();
        Check.done();
    }

    private static void theResult() {
        Check.says("A slot's shape, written in an order (0, 1), is the result: how many bytes.");
        for (int slot = 0; slot < 4; slot++) {
            ByteShapes shapes = new ByteShapes(0, 10, 10);
            Wkb.shape(0, 3).number(1).number(2).xy(slot, 2, 3, 4).feedTo(shapes);
            shapes.read(slot);
            for (int order = 0; order <= 1; order++) {
                Check.equal("write(" + slot + ", " + order + ")", 45, shapes.write(slot, order));
                Check.result("written", shapes, Wkb.shape(order, 3).number(1).number(2).xy(slot, 2, 3, 4));
            }
        }
    }

    private static void inPlaceOfTheLast() {
        Check.says("is the result: how many bytes.");
        ByteShapes shapes = new ByteShapes(0, 10, 10);
        Wkb.shape(0, 1).xy(1, 2).feedTo(shapes);
        shapes.read(0);
        Wkb.shape(0, 7).number(0).feedTo(shapes);
        shapes.read(1);
        Check.equal("write", 21, shapes.write(0, 0));
        Check.equal("write of a shorter one", 9, shapes.write(1, 1));
        Check.result("a shorter one", shapes, Wkb.shape(1, 7).number(0));
        Check.noSuch("behind it", () -> shapes.byteAt(9));
        Check.equal("write of a longer one", 21, shapes.write(0, 1));
        Check.result("a longer one", shapes, Wkb.shape(1, 1).xy(1, 2));
    }

    private static void changesTheResultAlone() {
        Check.says("A slot's shape, written in an order (0, 1), is the result");
        Check.answersAndChangesOnly("write(0, 0)", 65, shapes -> shapes.write(0, 0), "result");
        Check.answersAndChangesOnly("write(0, 1)", 65, shapes -> shapes.write(0, 1), "result");
        Check.answersAndChangesOnly("write(1, 0)", 21, shapes -> shapes.write(1, 0), "result");
        Check.answersAndChangesOnly("write(1, 1) once more", 21, shapes -> shapes.write(1, 1));
        Check.answersAndChangesOnly("write(2, 1)", 21, shapes -> shapes.write(2, 1), "result");
    }

    private static void noSuchSlot() {
        Check.says("IndexOutOfBoundsException, when there is no such slot");
        for (int slot : NO_SLOTS) {
            for (int order = 0; order <= 1; order++) {
                int asked = order;
                Check.leavesAll("write(" + slot + ", " + order + ")", IndexOutOfBoundsException.class,
                    shapes -> shapes.write(slot, asked));
            }
        }
    }

    private static void anotherOrder() {
        Check.says("IllegalArgumentException, for another order");
        for (int order : NO_ORDERS) {
            Check.leavesAll("write(0, " + order + ")", IllegalArgumentException.class,
                shapes -> shapes.write(0, order));
        }
    }

    private static void noShape() {
        Check.says("IllegalStateException, when it has none (the result stays).");
        for (int order = 0; order <= 1; order++) {
            int asked = order;
            Check.leavesAll("write(3, " + order + ")", IllegalStateException.class, shapes -> shapes.write(3, asked));
            ByteShapes unused = new ByteShapes(0, 10, 10);
            Check.badState("write of nothing at all", () -> unused.write(0, asked));
            Check.equal("no result", 0, unused.count(0, 3));
            Check.noSuch("no result", () -> unused.byteAt(0));
            Check.equal("no result", 0, unused.again());
        }
    }

    private static void noShapeAfterAFault() {
        Check.says("IllegalStateException, when it has none (the result stays).");
        ByteShapes shapes = new ByteShapes(0, 10, 10);
        Wkb point = Wkb.shape(0, 1).xy(1, 2);
        point.feedTo(shapes);
        shapes.read(0);
        shapes.write(0, 0);
        Wkb.bytes(7).feedTo(shapes);
        Check.badArgument("read", () -> shapes.read(0));
        Check.badState("write", () -> shapes.write(0, 1));
        Check.result("the result stays", shapes, point);
    }
}
