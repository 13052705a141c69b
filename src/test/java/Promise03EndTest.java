/** Promise 3: end. */
public final class Promise03EndTest {
    public static void main(String[] args) {
        everyLength();
        othersAreGone();
        changesTheTapeAlone();
        noneOfThese();
        lessThanTwenty();
        Check.done();
    }

    private static void everyLength() {
        Check.says("Of the last twenty bytes of the tape n (0 .. 20) count, the others are gone: how many it has.");
        for (int n = 0; n <= 20; n++) {
            ByteShapes shapes = new ByteShapes(0, 10, 10);
            shapes.feed(1, 2, 3, 4, 5);
            shapes.feed(1, 2, 3, 4, 5);
            Check.equal("end(" + n + ")", 20 + n, shapes.end(n));
            Check.equal("count after end(" + n + ")", 20 + n, shapes.count(0, 2));
        }
    }

    private static void othersAreGone() {
        Check.says("Of the last twenty bytes of the tape n (0 .. 20) count, the others are gone");
        ByteShapes shapes = new ByteShapes(0, 10, 10);
        shapes.feed(0x00000000, 0x02000000, 0x01FFFFFF, -1, -1);
        Check.equal("the first nine", 9, shapes.end(9));
        shapes.feed(0x3FF00000, 0, 0x40000000, 0, -1);
        Check.equal("the first sixteen of the last twenty", 25, shapes.end(16));
        Check.equal("read", 2, shapes.read(0));
        Check.points("one point", shapes, 0, 1, 2);
        shapes.feed(0x00000000, 0x01000000, 0, 0, 0);
        shapes.feed(0x00FFFFFF, -1, -1, -1, -1);
        Check.equal("once", 39, shapes.end(19));
        Check.equal("twice: the last twenty lie in both", 21, shapes.end(2));
        Check.equal("read", 1, shapes.read(0));
        shapes.feed(1, 2, 3, 4, 5);
        Check.equal("all twenty", 20, shapes.end(20));
        Check.equal("none", 0, shapes.end(0));
    }

    private static void changesTheTapeAlone() {
        Check.says("the others are gone: how many it has.");
        for (int n = 0; n < 20; n++) {
            int left = n;
            Check.answersAndChangesOnly("end(" + n + ")", InUse.TAPE_BYTES - 20 + n,
                shapes -> shapes.end(left), "tape");
        }
        Check.answersAndChangesOnly("end(20)", InUse.TAPE_BYTES, shapes -> shapes.end(20));
    }

    private static void noneOfThese() {
        Check.says("IllegalArgumentException, when n is none of these");
        for (int n : new int[] {-1, 21, -20, 40, 256, Integer.MIN_VALUE, Integer.MAX_VALUE}) {
            Check.leavesAll("end(" + n + ")", IllegalArgumentException.class, shapes -> shapes.end(n));
        }
    }

    private static void lessThanTwenty() {
        Check.says("IllegalStateException, when it has less than twenty.");
        for (int size = 0; size < 20; size++) {
            for (int n = 0; n <= 20; n++) {
                int asked = n;
                ByteShapes shapes = new ByteShapes(0, 10, 10);
                shapes.feed(0x00000000, 0x07000000, 0x00000000, 0, 0);
                shapes.end(size);
                Check.badState("end(" + n + ") of " + size, () -> shapes.end(asked));
                Check.equal("the tape stays", size, shapes.count(0, 2));
                Check.equal("feed behind it", size + 20, shapes.feed(0, 0, 0, 0, 0));
                Check.equal("end(0) leaves it", size, shapes.end(0));
            }
        }
        for (int n = 0; n <= 20; n++) {
            int asked = n;
            Check.leavesAllAfter(shapes -> shapes.end(0) + shapes.end(0), "end(" + n + ") of one",
                IllegalStateException.class, shapes -> shapes.end(asked));
        }
        ByteShapes twenty = new ByteShapes(0, 10, 10);
        twenty.feed(0, 0, 0, 0, 0);
        Check.equal("end(19) of twenty", 19, twenty.end(19));
    }
}
