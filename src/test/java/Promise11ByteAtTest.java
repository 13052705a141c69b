/** byteAt: byte i of the result, 0 .. 255. */
public final class Promise11ByteAtTest {
    public static void main(String[] args) {
        ByteShapes shapes = new ByteShapes(1, 10, 20);
        Check.noSuch("byteAt of no result", () -> shapes.byteAt(0));
        Wkb line = Wkb.shape(1, 2).number(2).xy(-0.1, 0.2, 0.3, -12345.6);
        line.feedTo(shapes);
        Check.noSuch("the tape is no result", () -> shapes.byteAt(0));
        shapes.read(0);
        shapes.write(0, 1);
        Check.result("result", shapes, line);
        Check.equal("a high byte has no sign", 0xBF, shapes.byteAt(16));
        for (int bad : new int[] {-1, 41, 65536, Integer.MIN_VALUE, Integer.MAX_VALUE}) {
            Check.noSuch("byteAt(" + bad + ")", () -> shapes.byteAt(bad));
        }
        Wkb.shape(0, 7).number(0).feedTo(shapes);
        shapes.read(1);
        Check.result("reading leaves the result", shapes, line);
        shapes.write(1, 0);
        Check.result("a shorter result", shapes, Wkb.shape(0, 7).number(0));
        Check.noSuch("behind a shorter result", () -> shapes.byteAt(9));
        Check.done();
    }
}
