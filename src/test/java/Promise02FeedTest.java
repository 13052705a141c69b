/** Promise 2: feed. */
public final class Promise02FeedTest {
    public static void main(String[] args) {
        highestFirst();
        howMany();
        changesTheTapeAlone();
        fullTape();
        Check.done();
    }

    private static void highestFirst() {
        Check.says("Twenty bytes come behind the tape, the highest of a first");
        ByteShapes shapes = new ByteShapes(0, 10, 10);
        shapes.feed(0x00000000, 0x02000000, 0x02419D6F, 0x34540000, 0x00C1CD6F);
        shapes.feed(0x34588000, 0x00417020, 0x30400000, 0x00BFF000, 0x00000000);
        shapes.feed(0x00FFFFFF, -1, -1, -1, -1);
        Check.equal("end", 41, shapes.end(1));
        Check.equal("read", 2, shapes.read(0));
        Check.points("two points", shapes, 0, 123456789, -987654321, 0x01020304, -1);
    }

    private static void howMany() {
        Check.says("Twenty bytes come behind the tape, the highest of a first: how many it has.");
        ByteShapes shapes = new ByteShapes(0, 10, 10);
        for (int i = 1; i <= 100; i++) {
            Check.equal("feed " + i, 20 * i, shapes.feed(i, -i, i, Integer.MIN_VALUE, Integer.MAX_VALUE));
            Check.equal("count after feed " + i, 20 * i, shapes.count(3, 2));
        }
        Check.equal("end", 1987, shapes.end(7));
        Check.equal("feed behind what end has left", 2007, shapes.feed(-1, -1, -1, -1, -1));
    }

    private static void changesTheTapeAlone() {
        Check.says("Twenty bytes come behind the tape");
        Check.answersAndChangesOnly("feed", InUse.TAPE_BYTES + 20, shapes -> shapes.feed(1, 2, 3, 4, 5), "tape");
    }

    // More calls than an object is promised to bear: fewer never fill a tape.
    private static void fullTape() {
        Check.says("IllegalStateException, when there would be more than 65536.");
        ByteShapes shapes = new ByteShapes(0, 10, 10);
        for (int i = 1; i <= 3276; i++) {
            Check.equal("feed " + i, 20 * i, shapes.feed(0, 0, 0, 0, 0));
        }
        refused("twenty behind 65520", shapes, 65520);
        Check.equal("end", 65517, shapes.end(17));
        refused("twenty behind 65517", shapes, 65517);
        Check.equal("end", 65513, shapes.end(16));
        Check.equal("feed", 65533, shapes.feed(0, 0, 0, 0, 0));
        Check.equal("end", 65516, shapes.end(3));
        Check.equal("twenty behind 65516", 65536, shapes.feed(0, 0, 0, 0, 0));
        refused("twenty behind 65536", shapes, 65536);
        Check.badArgument("read of noughts", () -> shapes.read(0));
        Check.equal("all is gone", 20, shapes.feed(0, 0, 0, 0, 0));
        Check.leavesAllAfter(Promise02FeedTest::fill, "feed", IllegalStateException.class,
            used -> used.feed(1, 2, 3, 4, 5));
    }

    private static long fill(ByteShapes shapes) {
        while (shapes.count(0, 2) <= 65516) {
            shapes.feed(9, 9, 9, 9, 9);
        }
        return shapes.count(0, 2);
    }

    private static void refused(String what, ByteShapes shapes, int size) {
        Check.badState(what, () -> shapes.feed(-1, -1, -1, -1, -1));
        Check.equal(what + ": the tape stays", size, shapes.count(0, 2));
        Check.equal(what + ": the slots stay", 0, shapes.count(0, 0));
        Check.equal(what + ": the result stays", 0, shapes.count(0, 3));
        Check.equal(what + ": the fault stays", 0, shapes.fault(0));
    }
}
