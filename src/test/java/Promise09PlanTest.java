/** plan: number i of a slot's plan. */
public final class Promise09PlanTest {
    public static void main(String[] args) {
        ByteShapes shapes = new ByteShapes(0, 10, 20);
        Check.noSuch("plan of none", () -> shapes.plan(0, 0));
        Wkb.shape(0, 7).number(2).part(0, 3).number(2).number(1).xy(1, 2).number(3).xy(1, 2, 3, 4, 5, 6)
            .part(0, 1).bits(-1L, -1L).feedTo(shapes);
        shapes.read(3);
        int[] due = {7, 2, 3, 2, 1, 3, 1, 0};
        for (int i = 0; i < due.length; i++) {
            Check.equal("plan(3, " + i + ")", due[i], shapes.plan(3, i));
        }
        for (int bad : new int[] {-1, due.length, 20, Integer.MIN_VALUE, Integer.MAX_VALUE}) {
            Check.noSuch("plan(3, " + bad + ")", () -> shapes.plan(3, bad));
            Check.noSuch("plan(" + bad + ", 0)", () -> shapes.plan(bad, 0));
        }
        Check.noSuch("plan(4, 0)", () -> shapes.plan(4, 0));
        Check.noSuch("plan of another slot", () -> shapes.plan(2, 0));
        Wkb.shape(0, 2).number(0).feedTo(shapes);
        shapes.read(3);
        Check.equal("a shorter plan", 0, shapes.plan(3, 1));
        Check.noSuch("behind a shorter plan", () -> shapes.plan(3, 2));
        Wkb.shape(0, 2).number(9).feedTo(shapes);
        Check.badArgument("read", () -> shapes.read(3));
        Check.noSuch("plan after a fault", () -> shapes.plan(3, 0));
        Check.done();
    }
}
