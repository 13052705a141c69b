/** again: the result is the tape from now on. */
public final class Promise07AgainTest {
    public static void main(String[] args) {
        ByteShapes shapes = new ByteShapes(2, 10, 10);
        Check.equal("again of no result", 0, shapes.again());
        shapes.feed(1, 2, 3, 4, 5);
        Check.equal("again of no result", 0, shapes.again());
        Check.equal("the tape is gone", 0, shapes.count(0, 2));

        Wkb line = Wkb.shape(1, 2).number(2).xy(1.25, -2.5, 0.01, 9999);
        line.feedTo(shapes);
        shapes.read(0);
        shapes.write(0, 0);
        shapes.feed(1, 2, 3, 4, 5);
        Check.equal("in place of the tape", 41, shapes.again());
        Check.equal("the tape", 41, shapes.count(0, 2));
        Check.equal("the result stays", 41, shapes.count(0, 3));
        Check.equal("read", 2, shapes.read(1));
        Check.isTrue("the same is read again", shapes.same(0, 1));
        Check.points("the same is read again", shapes, 1, 125, -250, 1, 999900);
        Check.equal("the result stays", 41, shapes.count(0, 3));

        Check.equal("again, again", 41, shapes.again());
        Check.equal("feed behind it", 61, shapes.feed(0, 0, 0, 0, 0));
        Check.equal("end", 42, shapes.end(1));
        Check.badArgument("read", () -> shapes.read(2));
        Check.equal("behind", 8, shapes.fault(0));
        Check.equal("behind", 41, shapes.fault(1));

        shapes.again();
        Check.equal("end of a tape of 41", 26, shapes.end(5));
        Check.equal("the result is whole", 41, shapes.count(0, 3));
        Check.equal("its last byte", 0, shapes.byteAt(40));
        Check.equal("its first byte", 0, shapes.byteAt(0));
        Check.done();
    }
}
