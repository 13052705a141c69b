/** Promise 9: plan. */
public final class Promise09PlanTest {
    public static void main(String[] args) {
        everyNumber();
        changesNothing();
        noSuchSlot();
        noSuchNumber();
        noNumberAnyMore();
        Check.done();
    }

    private static void everyNumber() {
        Check.says("Number i of a slot's plan.");
        ByteShapes shapes = new ByteShapes(0, 10, 8);
        Wkb.shape(0, 7).number(2).part(0, 3).number(2).number(1).xy(1, 2).number(3).xy(1, 2, 3, 4, 5, 6)
            .part(0, 1).bits(-1L, -1L).feedTo(shapes);
        shapes.read(3);
        int[] due = {7, 2, 3, 2, 1, 3, 1, 0};
        for (int i = 0; i < due.length; i++) {
            Check.equal("plan(3, " + i + ")", due[i], shapes.plan(3, i));
        }
        Check.noSuch("behind the last, all room taken", () -> shapes.plan(3, 8));
    }

    private static void changesNothing() {
        Check.says("Number i of a slot's plan.");
        Check.answersAndChangesOnly("plan(0, 3)", 2, shapes -> shapes.plan(0, 3));
    }

    private static void noSuchSlot() {
        Check.says("IndexOutOfBoundsException, when there is no such slot or number.");
        for (int slot : new int[] {-1, 4, 5, Integer.MIN_VALUE, Integer.MAX_VALUE}) {
            for (int i : new int[] {0, 1, -1, Integer.MAX_VALUE}) {
                Check.leavesAll("plan(" + slot + ", " + i + ")", IndexOutOfBoundsException.class,
                    shapes -> shapes.plan(slot, i));
            }
        }
    }

    private static void noSuchNumber() {
        Check.says("IndexOutOfBoundsException, when there is no such slot or number.");
        int[] numbers = {4, 2, 2, 0};
        for (int each = 0; each < 4; each++) {
            int slot = each;
            for (int i : new int[] {-1, numbers[slot], numbers[slot] + 1, 19, 20, 4096, Integer.MIN_VALUE,
                Integer.MAX_VALUE}) {
                Check.leavesAll("plan(" + slot + ", " + i + ")", IndexOutOfBoundsException.class,
                    shapes -> shapes.plan(slot, i));
            }
        }
    }

    private static void noNumberAnyMore() {
        Check.says("IndexOutOfBoundsException, when there is no such slot or number.");
        ByteShapes shapes = InUse.make();
        shapes.read(0);
        Check.equal("a shorter plan", 2, shapes.plan(0, 1));
        Check.noSuch("behind a shorter plan", () -> shapes.plan(0, 2));
        Wkb.shape(0, 2).number(9).feedTo(shapes);
        Check.badArgument("read", () -> shapes.read(0));
        Check.noSuch("after something wrong", () -> shapes.plan(0, 0));
    }
}
