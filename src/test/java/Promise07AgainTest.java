/** Promise 7: again. */
public final class Promise07AgainTest {
    public static void main(String[] args) {
        theTapeFromNowOn();
        ofNoResult();
        changesTheTapeAlone();
        rowsOfTheirOwn();
        longest();
        Check.done();
    }

    private static ByteShapes written() {
        ByteShapes shapes = new ByteShapes(2, 10, 10);
        Wkb.shape(1, 2).number(2).xy(1.25, -2.5, 0.01, 9999).feedTo(shapes);
        shapes.read(0);
        shapes.write(0, 0);
        return shapes;
    }

    private static void theTapeFromNowOn() {
        Check.says("The result is the tape from now on");
        ByteShapes shapes = written();
        shapes.feed(-1, -1, -1, -1, -1);
        Check.equal("in place of the tape", 41, shapes.again());
        Check.equal("the tape", 41, shapes.count(0, 2));
        Check.equal("read", 2, shapes.read(1));
        Check.isTrue("the same is read again", shapes.same(0, 1));
        Check.points("the same is read again", shapes, 1, 125, -250, 1, 999900);
        for (int i = 0; i < 3; i++) {
            shapes.feed(-1, -1, -1, -1, -1);
        }
        Check.equal("in place of a longer tape", 41, shapes.again());
        Check.equal("read", 2, shapes.read(2));
        Check.isTrue("the same is read again", shapes.same(0, 2));
    }

    private static void ofNoResult() {
        Check.says("The result is the tape from now on, cut behind 65536 bytes: how many.");
        ByteShapes shapes = new ByteShapes(0, 10, 10);
        Check.equal("no result", 0, shapes.again());
        shapes.feed(1, 2, 3, 4, 5);
        Check.equal("no result", 0, shapes.again());
        Check.equal("the tape is gone", 0, shapes.count(0, 2));
        Check.badState("end", () -> shapes.end(0));
        Check.badArgument("read", () -> shapes.read(0));
    }

    private static void changesTheTapeAlone() {
        Check.says("The result is the tape from now on");
        Check.answersAndChangesOnly("again", InUse.RESULT_BYTES, shapes -> shapes.again(), "tape");
    }

    private static void rowsOfTheirOwn() {
        Check.says("The result is the tape from now on");
        ByteShapes shapes = written();
        shapes.again();
        Check.equal("feed behind it", 61, shapes.feed(-1, -1, -1, -1, -1));
        Check.equal("end", 42, shapes.end(1));
        Check.badArgument("read", () -> shapes.read(2));
        Check.equal("BEHIND", 8, shapes.fault(0));
        Check.equal("at 41", 41, shapes.fault(1));
        shapes.again();
        Check.equal("end", 26, shapes.end(5));
        shapes.feed(-1, -1, -1, -1, -1);
        Check.result("the result stays", shapes, Wkb.shape(0, 2).number(2).xy(1.25, -2.5, 0.01, 9999));
        shapes.again();
        shapes.write(0, 1);
        Check.equal("a new result is not the tape", 2, shapes.read(3));
        Check.isTrue("the tape was as before", shapes.same(0, 3));
    }

    // A result is no longer than the bytes that were read, so none is ever cut: this is
    // the longest. It takes more calls than an object is promised to bear.
    private static void longest() {
        Check.says("cut behind 65536 bytes: how many.");
        ByteShapes shapes = new ByteShapes(0, 4096, 4096);
        Wkb full = Wkb.shape(0, 7).number(3).part(0, 2).number(4090).raw(new int[16 * 4090])
            .part(0, 3).number(3).number(1).xy(1, 2).number(1).xy(3, 4).number(1).xy(5, 6).part(0, 2).number(0);
        Check.equal("a full tape", 65536, full.feedTo(shapes));
        Check.equal("read", 7, shapes.read(0));
        Check.equal("write", 65536, shapes.write(0, 1));
        Check.equal("its last byte but eight", 1, shapes.byteAt(65527));
        Check.equal("its last byte", 0, shapes.byteAt(65535));
        Check.noSuch("behind it", () -> shapes.byteAt(65536));
        Check.equal("again", 65536, shapes.again());
        Check.equal("read", 7, shapes.read(1));
        Check.isTrue("the same", shapes.same(0, 1));
    }
}
