/** end: of the last twenty bytes n count. */
public final class Promise03EndTest {
    public static void main(String[] args) {
        everyLength();
        firstOnesCount();
        wrongNumbers();
        shortTape();
        Check.done();
    }

    private static void everyLength() {
        for (int n = 0; n <= 20; n++) {
            ByteShapes shapes = new ByteShapes(0, 10, 10);
            shapes.feed(1, 2, 3, 4, 5);
            shapes.feed(1, 2, 3, 4, 5);
            Check.equal("end(" + n + ")", 20 + n, shapes.end(n));
            Check.equal("count after end(" + n + ")", 20 + n, shapes.count(0, 2));
        }
    }

    private static void firstOnesCount() {
        ByteShapes shapes = new ByteShapes(0, 10, 10);
        shapes.feed(0x00000000, 0x02000000, 0x00FFFFFF, -1, -1);
        Check.equal("end(9)", 9, shapes.end(9));
        Check.equal("read", 2, shapes.read(0));
    }

    private static void wrongNumbers() {
        ByteShapes shapes = new ByteShapes(0, 10, 10);
        int[] numbers = {-1, 21, Integer.MIN_VALUE, Integer.MAX_VALUE};
        for (int n : numbers) {
            Check.badArgument("end(" + n + ") of nothing", () -> shapes.end(n));
        }
        shapes.feed(0, 0, 0, 0, 0);
        for (int n : numbers) {
            Check.badArgument("end(" + n + ")", () -> shapes.end(n));
        }
        Check.equal("the tape stays", 20, shapes.count(0, 2));
    }

    private static void shortTape() {
        ByteShapes shapes = new ByteShapes(0, 10, 10);
        Check.badState("end(0) of nothing", () -> shapes.end(0));
        Check.badState("end(20) of nothing", () -> shapes.end(20));
        shapes.feed(0, 0, 0, 0, 0);
        Check.equal("end(20)", 20, shapes.end(20));
        Check.equal("end(19)", 19, shapes.end(19));
        Check.badState("end of nineteen", () -> shapes.end(19));
        Check.equal("the tape stays", 19, shapes.count(0, 2));
        Check.equal("feed behind it", 39, shapes.feed(0, 0, 0, 0, 0));
        Check.equal("end(0) leaves the nineteen", 19, shapes.end(0));
    }
}
