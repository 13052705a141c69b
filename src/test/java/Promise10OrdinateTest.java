/** ordinate: x or y of point i of a slot. */
public final class Promise10OrdinateTest {
    public static void main(String[] args) {
        ByteShapes shapes = new ByteShapes(3, 10, 20);
        Check.noSuch("ordinate of none", () -> shapes.ordinate(0, 0, 0));
        Wkb.shape(0, 7).number(2).part(1, 2).number(2).xy(1.5, -2.25, 0.001, 4)
            .part(0, 3).number(1).number(1).xy(-1000000, 1000000).feedTo(shapes);
        shapes.read(1);
        int[] due = {1500, -2250, 1, 4000, -1000000000, 1000000000};
        for (int i = 0; i < due.length; i++) {
            Check.equal("ordinate " + i, due[i], shapes.ordinate(1, i / 2, i % 2));
        }
        for (int bad : new int[] {-1, 4, 10, Integer.MIN_VALUE, Integer.MAX_VALUE, 1 << 30, 1 << 31 | 1}) {
            Check.noSuch("ordinate(1, " + bad + ", 0)", () -> shapes.ordinate(1, bad, 0));
            Check.noSuch("ordinate(1, 0, " + bad + ")", () -> shapes.ordinate(1, 0, bad));
            Check.noSuch("ordinate(" + bad + ", 0, 0)", () -> shapes.ordinate(bad, 0, 0));
        }
        Check.noSuch("ordinate(1, 3, 0)", () -> shapes.ordinate(1, 3, 0));
        Check.noSuch("ordinate(1, 0, 2)", () -> shapes.ordinate(1, 0, 2));
        Check.noSuch("ordinate(1, 1, -1)", () -> shapes.ordinate(1, 1, -1));
        Check.noSuch("ordinate of another slot", () -> shapes.ordinate(2, 0, 0));
        Wkb.shape(0, 1).bits(-1L, -1L).feedTo(shapes);
        shapes.read(1);
        Check.noSuch("ordinate of an empty POINT", () -> shapes.ordinate(1, 0, 0));
        Wkb.shape(0, 2).number(2).xy(1, 2, 3, 4).cut(40).feedTo(shapes);
        Check.badArgument("read", () -> shapes.read(1));
        Check.noSuch("ordinate after a fault", () -> shapes.ordinate(1, 0, 0));
        Check.done();
    }
}
