/** Promise 5: fault. Each fault and its place is tested with the terms. */
public final class Promise05FaultTest {
    public static void main(String[] args) {
        whatAndPlace();
        latestBytes();
        nothingWrong();
        before();
        refusedReads();
        otherWhats();
        changesNothing();
        Check.done();
    }

    private static void told(String what, ByteShapes shapes, int wrong, int place) {
        Check.equal(what + ": fault(0)", wrong, shapes.fault(0));
        Check.equal(what + ": fault(1)", place, shapes.fault(1));
    }

    private static void whatAndPlace() {
        Check.says("What was wrong (what 0), and its place (1)");
        ByteShapes shapes = new ByteShapes(0, 2, 4);
        Check.fault("ORDER", shapes, Wkb.bytes(2), 1, 0);
        Check.fault("KIND", shapes, Wkb.shape(0, 9), 2, 1);
        Check.fault("END", shapes, Wkb.shape(0, 2).number(1).xy(1), 3, 17);
        Check.fault("NUMBER", shapes, Wkb.shape(0, 1).xy(1, Double.NaN), 4, 13);
        Check.fault("RANGE", shapes, Wkb.shape(0, 1).xy(1e10, 1), 5, 5);
        Check.fault("FULL", shapes, Wkb.shape(0, 2).number(3).xy(1, 2, 3, 4), 7, 41);
        Check.fault("BEHIND", shapes, Wkb.shape(0, 2).number(0).raw(0), 8, 9);
        Check.fault("MORE", shapes, Wkb.shape(0, 0x80000001L), 9, 1);
        Wkb deep = Wkb.shape(0, 7).number(1);
        for (int i = 0; i < 50; i++) {
            deep.part(0, 7).number(1);
        }
        Check.fault("DEEP", new ByteShapes(0, 1, 200), deep, 6, 451);
    }

    private static void latestBytes() {
        Check.says("in the latest bytes that were read");
        ByteShapes shapes = new ByteShapes(0, 10, 10);
        Check.fault("the first", shapes, Wkb.shape(0, 1).xy(1, 2).raw(0), 8, 21);
        Check.fault("a later one", shapes, Wkb.shape(0, 1), 3, 5);
        Check.reads("into another slot", shapes, 1, Wkb.shape(0, 1).xy(1, 2), 1, 1);
        told("of any slot", shapes, 0, 0);
        Check.fault("again in slot 0", shapes, Wkb.bytes(9), 1, 0);
        Wkb.shape(0, 1).xy(1, 2).feedTo(shapes);
        told("bytes that are fed are not read yet", shapes, 1, 0);
        shapes.write(1, 0);
        shapes.again();
        told("nor are those of the result", shapes, 1, 0);
    }

    private static void nothingWrong() {
        Check.says("0 when nothing was");
        ByteShapes shapes = new ByteShapes(0, 10, 10);
        Check.fault("something", shapes, Wkb.shape(0, 1).xy(1, 2).raw(0), 8, 21);
        Check.reads("nothing", shapes, 0, Wkb.shape(0, 1).xy(1, 2), 1, 1);
        told("nothing", shapes, 0, 0);
    }

    private static void before() {
        Check.says("0 when nothing was, or before.");
        ByteShapes shapes = new ByteShapes(0, 10, 10);
        told("new", shapes, 0, 0);
        shapes.feed(-1, -1, -1, -1, -1);
        told("fed", shapes, 0, 0);
        shapes.end(3);
        told("ended", shapes, 0, 0);
        Check.noSuch("read(4)", () -> shapes.read(4));
        told("there was no slot to read into", shapes, 0, 0);
    }

    /** Where there is no such slot, bytes are gone but not read. */
    private static void refusedReads() {
        Check.says("in the latest bytes that were read");
        for (int slot : new int[] {-1, 4, Integer.MIN_VALUE, Integer.MAX_VALUE}) {
            ByteShapes shapes = new ByteShapes(0, 10, 10);
            Check.fault("read bytes", shapes, Wkb.shape(0, 1).xy(1, 2).raw(0), 8, 21);
            Wkb.shape(0, 1).xy(1, 2).feedTo(shapes);
            Check.noSuch("read(" + slot + ") of a shape", () -> shapes.read(slot));
            told("after a shape", shapes, 8, 21);
            Wkb.bytes(7).feedTo(shapes);
            Check.noSuch("read(" + slot + ") of something wrong", () -> shapes.read(slot));
            told("after something wrong", shapes, 8, 21);
        }
    }

    private static void otherWhats() {
        Check.says("IndexOutOfBoundsException, for another what.");
        for (int what : new int[] {-1, 2, 3, 256, Integer.MIN_VALUE, Integer.MAX_VALUE}) {
            Check.leavesAll("fault(" + what + ")", IndexOutOfBoundsException.class, shapes -> shapes.fault(what));
        }
    }

    private static void changesNothing() {
        Check.says("What was wrong (what 0), and its place (1)");
        Check.answersAndChangesOnly("fault(0)", 8, shapes -> shapes.fault(0));
        Check.answersAndChangesOnly("fault(1)", 21, shapes -> shapes.fault(1));
    }
}
