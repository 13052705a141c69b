/** Promise 11: byteAt. */
public final class Promise11ByteAtTest {
    public static void main(String[] args) {
        everyByte();
        withoutSign();
        changesNothing();
        noSuchByte();
        noResult();
        noByteAnyMore();
        Check.done();
    }

    private static void everyByte() {
        Check.says("Byte i of the result");
        ByteShapes shapes = new ByteShapes(1, 10, 20);
        Wkb line = Wkb.shape(1, 2).number(2).xy(-0.1, 0.2, 0.3, -12345.6);
        line.feedTo(shapes);
        shapes.read(0);
        shapes.write(0, 1);
        Check.result("a line", shapes, line);
        Wkb.shape(0, 7).number(0).feedTo(shapes);
        Check.result("feeding leaves the result", shapes, line);
        shapes.read(0);
        Check.result("reading leaves the result", shapes, line);
    }

    private static void withoutSign() {
        Check.says("(its value is 0 .. 255)");
        ByteShapes shapes = new ByteShapes(0, 10, 20);
        Wkb.shape(0, 1).xy(-1, -987654321).feedTo(shapes);
        shapes.read(0);
        shapes.write(0, 0);
        int[] due = {0, 0, 0, 0, 1, 0xBF, 0xF0, 0, 0, 0, 0, 0, 0, 0xC1, 0xCD, 0x6F, 0x34, 0x58, 0x80, 0, 0};
        for (int i = 0; i < due.length; i++) {
            Check.equal("byteAt(" + i + ")", due[i], shapes.byteAt(i));
        }
    }

    private static void changesNothing() {
        Check.says("Byte i of the result");
        Check.answersAndChangesOnly("byteAt(0)", 1, shapes -> shapes.byteAt(0));
        Check.answersAndChangesOnly("byteAt(20)", 0xC0, shapes -> shapes.byteAt(20));
    }

    private static void noSuchByte() {
        Check.says("IndexOutOfBoundsException, when there is none.");
        for (int i : new int[] {-1, 21, 22, 65535, 65536, Integer.MIN_VALUE, Integer.MAX_VALUE}) {
            Check.leavesAll("byteAt(" + i + ")", IndexOutOfBoundsException.class, shapes -> shapes.byteAt(i));
        }
    }

    private static void noResult() {
        Check.says("IndexOutOfBoundsException, when there is none.");
        ByteShapes shapes = new ByteShapes(1, 10, 20);
        Check.noSuch("at first", () -> shapes.byteAt(0));
        Wkb.shape(0, 1).xy(1, 2).feedTo(shapes);
        Check.noSuch("the tape is no result", () -> shapes.byteAt(0));
        shapes.read(0);
        Check.noSuch("nor is a shape", () -> shapes.byteAt(0));
        Check.badState("write of another slot", () -> shapes.write(1, 0));
        Check.noSuch("nor is there one then", () -> shapes.byteAt(0));
    }

    private static void noByteAnyMore() {
        Check.says("IndexOutOfBoundsException, when there is none.");
        ByteShapes shapes = InUse.make();
        shapes.read(3);
        Wkb.shape(0, 7).number(0).feedTo(shapes);
        shapes.read(3);
        shapes.write(3, 0);
        Check.result("a shorter result", shapes, Wkb.shape(0, 7).number(0));
        Check.noSuch("behind a shorter result", () -> shapes.byteAt(9));
    }
}
