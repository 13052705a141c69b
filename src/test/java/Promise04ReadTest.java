/** Promise 4: read. What the bytes mean, and what is wrong in them, is tested with the terms. */
public final class Promise04ReadTest {
    private static final int[] NO_SLOTS = {-1, 4, 5, -4, 256, Integer.MIN_VALUE, Integer.MAX_VALUE};

    public static void main(String[] args) {
        theKind();
        intoThatSlotAlone();
        emptyAfterAShape();
        emptyAfterSomethingWrong();
        emptyAfterNoSlot();
        feedingAfterNoSlot();
        noSuchSlot();
        somethingWrong();
        wrongOverAndOver();
        Check.done();
    }

    private static void theKind() {
        Check.says("into a slot: the shape's kind.");
        for (int slot = 0; slot < 4; slot++) {
            ByteShapes shapes = new ByteShapes(0, 10, 20);
            Check.reads("kind 1", shapes, slot, Wkb.shape(0, 1).xy(1, 2), 1, 1);
            Check.reads("kind 1, empty", shapes, slot, Wkb.shape(0, 1).bits(-1L, -1L), 1, 0);
            for (int kind = 2; kind <= 7; kind++) {
                Check.reads("kind " + kind, shapes, slot, Wkb.shape(1, kind).number(0), kind, 0);
                Check.reads("kind " + kind + " with a mark", shapes, slot,
                    Wkb.shape(0, 0x20000000L + kind).number(9).number(0), kind, 0);
            }
        }
    }

    private static void intoThatSlotAlone() {
        Check.says("Reads the tape (which is empty then, in any case) into a slot");
        Check.answersAndChangesOnly("read(0)", 2, shapes -> shapes.read(0), "slot 0", "fault", "tape");
        Check.answersAndChangesOnly("read(1)", 2, shapes -> shapes.read(1), "slot 1", "fault", "tape");
        Check.answersAndChangesOnly("read(2)", 2, shapes -> shapes.read(2), "slot 2", "fault", "tape");
        Check.answersAndChangesOnly("read(3)", 2, shapes -> shapes.read(3), "slot 3", "fault", "tape");
    }

    private static void emptyAfterAShape() {
        Check.says("(which is empty then, in any case)");
        ByteShapes shapes = InUse.make();
        Check.equal("read", 2, shapes.read(3));
        Check.equal("the tape", 0, shapes.count(0, 2));
        nothingToRead(shapes);
    }

    private static void nothingToRead(ByteShapes shapes) {
        Check.badState("end", () -> shapes.end(0));
        Check.badArgument("read of nothing", () -> shapes.read(0));
        Check.equal("END", 3, shapes.fault(0));
        Check.equal("at 0", 0, shapes.fault(1));
        Check.equal("feed", 20, shapes.feed(0, 0, 0, 0, 0));
    }

    private static void emptyAfterSomethingWrong() {
        Check.says("(which is empty then, in any case)");
        Wkb[] wrong = {Wkb.bytes(2), Wkb.shape(0, 8), Wkb.shape(0, 1), Wkb.shape(0, 1).xy(Double.NaN, 0),
            Wkb.shape(0, 1).xy(1e10, 0), Wkb.shape(0, 1).xy(1, 2).raw(0), Wkb.shape(0, 1001),
            Wkb.shape(0, 2).number(99).raw(new int[176]), new Wkb()};
        for (Wkb bytes : wrong) {
            ByteShapes shapes = new ByteShapes(0, 10, 10);
            bytes.feedTo(shapes);
            Check.badArgument("read", () -> shapes.read(0));
            Check.equal("the tape", 0, shapes.count(0, 2));
            nothingToRead(shapes);
        }
    }

    private static void emptyAfterNoSlot() {
        Check.says("(which is empty then, in any case)");
        for (int slot : NO_SLOTS) {
            ByteShapes shapes = InUse.make();
            Check.equal("the tape before", InUse.TAPE_BYTES, shapes.count(0, 2));
            Check.noSuch("read(" + slot + ")", () -> shapes.read(slot));
            Check.equal("the tape after read(" + slot + ")", 0, shapes.count(0, 2));
            nothingToRead(shapes);
        }
    }

    private static void feedingAfterNoSlot() {
        Check.says("(which is empty then, in any case)");
        for (int slot : NO_SLOTS) {
            ByteShapes shapes = new ByteShapes(0, 10, 10);
            shapes.feed(-1, -1, -1, -1, -1);
            Check.noSuch("read(" + slot + ")", () -> shapes.read(slot));
            Check.reads("what is fed after it", shapes, 0, Wkb.shape(0, 1).xy(1, 2), 1, 1);
            Check.points("what is fed after it", shapes, 0, 1, 2);
            shapes.write(0, 0);
            shapes.again();
            Check.noSuch("read(" + slot + ")", () -> shapes.read(slot));
            Check.equal("the result is no tape any more", 0, shapes.count(0, 2));
            Check.equal("the result stays", 21, shapes.count(0, 3));
            Check.equal("again", 21, shapes.again());
            Check.equal("read", 1, shapes.read(1));
        }
    }

    private static void noSuchSlot() {
        Check.says("IndexOutOfBoundsException, when there is no such slot");
        for (int slot : NO_SLOTS) {
            Check.changesOnly("read(" + slot + ")", IndexOutOfBoundsException.class,
                shapes -> shapes.read(slot), "tape");
            Check.changesOnly("read(" + slot + ") of wrong bytes", IndexOutOfBoundsException.class,
                shapes -> shapes.feed(1, 2, 3, 4, 5) + shapes.read(slot), "tape");
        }
    }

    private static void somethingWrong() {
        Check.says("IllegalArgumentException, when something is wrong (the slot has none then).");
        Check.changesOnly("read(0)", IllegalArgumentException.class,
            shapes -> shapes.end(19) + shapes.read(0), "slot 0", "fault", "tape");
        Check.changesOnly("read(1)", IllegalArgumentException.class,
            shapes -> shapes.end(19) + shapes.read(1), "slot 1", "fault", "tape");
        Check.changesOnly("read(2)", IllegalArgumentException.class,
            shapes -> shapes.end(19) + shapes.read(2), "slot 2", "fault", "tape");
        Check.changesOnly("read(3), which had none", IllegalArgumentException.class,
            shapes -> shapes.end(19) + shapes.read(3), "fault", "tape");
        for (int each = 0; each < 3; each++) {
            int slot = each;
            ByteShapes shapes = InUse.make();
            shapes.end(19);
            Check.badArgument("read(" + slot + ")", () -> shapes.read(slot));
            hasNone(shapes, slot);
        }
    }

    private static void hasNone(ByteShapes shapes, int slot) {
        Check.equal("no plan numbers", 0, shapes.count(slot, 0));
        Check.equal("no points", 0, shapes.count(slot, 1));
        Check.noSuch("plan", () -> shapes.plan(slot, 0));
        Check.noSuch("ordinate", () -> shapes.ordinate(slot, 0, 0));
        Check.badState("write", () -> shapes.write(slot, 0));
        Check.isTrue("as none as slot 3", shapes.same(slot, 3));
    }

    /** Bytes that go wrong late: nothing that was right in them is kept. */
    private static void wrongOverAndOver() {
        Check.says("(the slot has none then)");
        Wkb whole = Wkb.shape(0, 7).number(2).part(1, 3).number(1).number(2).xy(1, 2, 3, 4).part(0, 1).xy(5, 6);
        ByteShapes shapes = new ByteShapes(0, 10, 20);
        for (int cut = 1; cut < whole.bytes().length; cut += 7) {
            Check.reads("whole", shapes, 0, whole, 7, 2, 3, 1, 2, 1, 1);
            whole.cut(cut).feedTo(shapes);
            Check.badArgument("read, cut at " + cut, () -> shapes.read(0));
            hasNone(shapes, 0);
        }
    }
}
