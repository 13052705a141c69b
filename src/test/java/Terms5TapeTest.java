/** Terms: the tape. */
public final class Terms5TapeTest {
    public static void main(String[] args) {
        emptyAtFirst();
        atMostSoMany();
        Check.done();
    }

    private static void emptyAtFirst() {
        Check.says("THE TAPE is a row of at most 65536 bytes, empty at first.");
        ByteShapes shapes = new ByteShapes(0, 10, 10);
        Check.equal("bytes", 0, shapes.count(0, 2));
        Check.badState("end(0)", () -> shapes.end(0));
        Check.badArgument("read(0)", () -> shapes.read(0));
        Check.equal("what was wrong: the end", 3, shapes.fault(0));
        Check.equal("its place", 0, shapes.fault(1));
        Check.equal("the first twenty", 20, shapes.feed(0, 0, 0, 0, 0));
    }

    // More calls than an object is promised to bear: fewer never fill a tape.
    private static void atMostSoMany() {
        Check.says("THE TAPE is a row of at most 65536 bytes");
        ByteShapes shapes = new ByteShapes(0, 4096, 4096);
        Wkb.shape(0, 2).number(4095).feedTo(shapes);
        for (int i = 0; i < 3276; i++) {
            shapes.feed(0, 0, 0, 0, 0);
        }
        Check.equal("a line of 4095 points", 65529, shapes.count(0, 2));
        Check.equal("its last byte counts", 2, shapes.read(0));
        Check.equal("points", 4095, shapes.count(0, 1));
        Check.equal("write", 65529, shapes.write(0, 1));
        Check.equal("again", 65529, shapes.again());
        Check.badState("feed", () -> shapes.feed(0, 0, 0, 0, 0));
        Check.equal("the tape stays", 65529, shapes.count(0, 2));
        Check.equal("read", 2, shapes.read(1));
        Check.isTrue("the same", shapes.same(0, 1));
    }
}
