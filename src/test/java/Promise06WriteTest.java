/** write: a slot's shape in one order, each x and y as the nearest fraction. */
public final class Promise06WriteTest {
    public static void main(String[] args) {
        kinds();
        oneOrderWithoutMarks();
        nearest();
        wrongCalls();
        Check.done();
    }

    private static void kinds() {
        for (int order = 0; order <= 1; order++) {
            writesAsRead(order, Wkb.shape(order, 1).xy(1, -2));
            writesAsRead(order, Wkb.shape(order, 1).bits(Wkb.NO_NUMBER, Wkb.NO_NUMBER));
            writesAsRead(order, Wkb.shape(order, 2).number(0));
            writesAsRead(order, Wkb.shape(order, 2).number(2).xy(1, 2, -3, 1e6));
            writesAsRead(order, Wkb.shape(order, 3).number(0));
            writesAsRead(order, Wkb.shape(order, 3).number(2).number(1).xy(1, 2).number(2).xy(3, 4, 5, 6));
            for (int kind = 4; kind <= 7; kind++) {
                writesAsRead(order, Wkb.shape(order, kind).number(0));
            }
            writesAsRead(order, Wkb.shape(order, 7).number(3)
                .part(order, 4).number(2).part(order, 1).xy(7, 8).part(order, 1).bits(Wkb.NO_NUMBER, Wkb.NO_NUMBER)
                .part(order, 6).number(1).part(order, 3).number(1).number(1).xy(9, 10)
                .part(order, 7).number(1).part(order, 5).number(1).part(order, 2).number(1).xy(11, 12));
        }
    }

    private static void writesAsRead(int order, Wkb bytes) {
        for (int digits = 0; digits < 4; digits++) {
            ByteShapes shapes = new ByteShapes(digits, 20, 40);
            bytes.feedTo(shapes);
            shapes.read(2);
            Check.equal("write", bytes.bytes().length, shapes.write(2, order));
            Check.result("as read", shapes, bytes);
        }
    }

    private static void oneOrderWithoutMarks() {
        ByteShapes shapes = new ByteShapes(0, 20, 40);
        Wkb.shape(1, 0x20000004L).number(4326).number(2).part(0, 1).xy(1, 2)
            .part(1, 0x20000001L).number(1).bits(-1L, 0x7FF0000000000001L).feedTo(shapes);
        shapes.read(0);
        for (int order = 0; order <= 1; order++) {
            Check.equal("write", 51, shapes.write(0, order));
            Check.result("order " + order, shapes, Wkb.shape(order, 4).number(2)
                .part(order, 1).xy(1, 2).part(order, 1).bits(Wkb.NO_NUMBER, Wkb.NO_NUMBER));
        }
    }

    private static void nearest() {
        int[] units = {1, 10, 100, 1000};
        int[] numbers = {0, 1, 2, 3, 5, 7, 9, 10, 11, 99, 101, 123456789, 333333333, 999999999, 1000000000, 536870912,
            536870911, 67108863, 4503599, 1024, 1023, 1025};
        for (int digits = 0; digits < 4; digits++) {
            for (int n : numbers) {
                double due = Double.parseDouble(n + "e-" + digits);
                Check.equal("due " + n, Double.doubleToRawLongBits(due),
                    Double.doubleToRawLongBits((double) n / units[digits]));
                ByteShapes shapes = new ByteShapes(digits, 1, 2);
                Wkb.shape(0, 1).xy(due, -due).feedTo(shapes);
                shapes.read(0);
                Check.points("in units", shapes, 0, n, -n);
                shapes.write(0, 0);
                Check.result(n + " of " + units[digits], shapes, Wkb.shape(0, 1).xy(due, n == 0 ? 0.0 : -due));
            }
        }
        ByteShapes shapes = new ByteShapes(1, 1, 2);
        Wkb.shape(0, 1).xy(-0.04, 1.23).feedTo(shapes);
        shapes.read(0);
        shapes.write(0, 1);
        Check.result("rounded", shapes, Wkb.shape(1, 1).xy(0.0, 1.2));
    }

    private static void wrongCalls() {
        ByteShapes shapes = new ByteShapes(0, 10, 10);
        Check.badState("write of nothing", () -> shapes.write(0, 0));
        Wkb point = Wkb.shape(0, 1).xy(1, 2);
        point.feedTo(shapes);
        shapes.read(0);
        shapes.write(0, 0);
        for (int bad : new int[] {-1, 4, Integer.MIN_VALUE, Integer.MAX_VALUE}) {
            Check.noSuch("write(" + bad + ", 0)", () -> shapes.write(bad, 0));
            Check.noSuch("write(" + bad + ", 2)", () -> shapes.write(bad, 2));
        }
        for (int bad : new int[] {-1, 2, Integer.MIN_VALUE, Integer.MAX_VALUE}) {
            Check.badArgument("write(0, " + bad + ")", () -> shapes.write(0, bad));
            Check.badArgument("write(1, " + bad + ")", () -> shapes.write(1, bad));
        }
        Check.badState("write of an empty slot", () -> shapes.write(1, 1));
        Check.result("the result stays", shapes, point);
        Wkb.bytes(7).feedTo(shapes);
        Check.badArgument("read", () -> shapes.read(0));
        Check.badState("write after a fault", () -> shapes.write(0, 0));
        Check.result("the result stays", shapes, point);
    }
}
