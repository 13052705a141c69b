/** feed: twenty bytes behind the tape, the highest of a first; at most 65536. */
public final class Promise02FeedTest {
    public static void main(String[] args) {
        highestFirst();
        behindTheTape();
        fullTape();
        Check.done();
    }

    private static void highestFirst() {
        ByteShapes shapes = new ByteShapes(0, 10, 10);
        Check.equal("feed", 20, shapes.feed(0x00000000, 0x013FF000, 0x00000000, 0x00C01C00, 0x00000000));
        Check.equal("feed", 40, shapes.feed(0x00FFFFFF, -1, -1, -1, -1));
        Check.equal("end", 21, shapes.end(1));
        Check.equal("read", 1, shapes.read(0));
        Check.points("1 and -7", shapes, 0, 1, -7);
    }

    private static void behindTheTape() {
        ByteShapes shapes = new ByteShapes(0, 10, 10);
        for (int i = 1; i <= 100; i++) {
            Check.equal("feed " + i, 20 * i, shapes.feed(i, i, i, i, i));
            Check.equal("count after feed " + i, 20 * i, shapes.count(3, 2));
        }
        Check.equal("end", 1980, shapes.end(0));
        Check.equal("feed after end", 2000, shapes.feed(-1, -1, -1, -1, -1));
    }

    // More calls than an object is promised to bear: fewer never fill a tape.
    private static void fullTape() {
        ByteShapes shapes = new ByteShapes(0, 10, 10);
        for (int i = 1; i <= 3276; i++) {
            Check.equal("feed " + i, 20 * i, shapes.feed(0, 0, 0, 0, 0));
        }
        Check.badState("feed 3277", () -> shapes.feed(0, 0, 0, 0, 0));
        Check.equal("a full tape", 65520, shapes.count(0, 2));
        Check.equal("end", 65516, shapes.end(16));
        Check.equal("feed up to the last byte", 65536, shapes.feed(0, 0, 0, 0, 0));
        Check.badState("feed into nothing", () -> shapes.feed(0, 0, 0, 0, 0));
        Check.equal("end", 65517, shapes.end(1));
        Check.badState("feed one too many", () -> shapes.feed(0, 0, 0, 0, 0));
        Check.equal("the tape stays", 65517, shapes.count(0, 2));
    }
}
