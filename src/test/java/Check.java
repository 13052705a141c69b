import java.util.Arrays;
import java.util.List;
import java.util.Map;

/** Counts and prints the answers that are not as due. */
final class Check {
    interface Call {
        long answer();
    }

    /** A call on an object that is made for it. */
    interface Use {
        long answer(ByteShapes shapes);
    }

    private static int checked = 0;
    private static int wrong = 0;
    private static String sentence = "";
    private static int checkedBefore = 0;

    private Check() {
    }

    /** What follows tests this sentence of the document, up to the next one. */
    static void says(String next) {
        endSentence();
        sentence = next;
        checkedBefore = checked;
    }

    private static void endSentence() {
        if (!sentence.isEmpty() && checked == checkedBefore) {
            tell("nothing is looked at");
        }
    }

    private static void tell(String text) {
        wrong++;
        System.out.println((sentence.isEmpty() ? "" : "\"" + sentence + "\": ") + text);
    }

    static void equal(String what, long want, long got) {
        checked++;
        if (want != got) {
            tell(what + " answered " + got + ", due is " + want);
        }
    }

    static void isTrue(String what, boolean got) {
        equal(what, 1, got ? 1 : 0);
    }

    static void isFalse(String what, boolean got) {
        equal(what, 0, got ? 1 : 0);
    }

    /** A subclass will not do: the machine's own exceptions are subclasses. */
    static void refused(String what, Class<? extends RuntimeException> want, Call call) {
        checked++;
        String got;
        try {
            got = Long.toString(call.answer());
        } catch (RuntimeException e) {
            if (e.getClass() == want) {
                return;
            }
            got = e.toString();
        }
        tell(what + " answered " + got + ", due is " + want.getSimpleName());
    }

    static void noSuch(String what, Call call) {
        refused(what, IndexOutOfBoundsException.class, call);
    }

    static void badArgument(String what, Call call) {
        refused(what, IllegalArgumentException.class, call);
    }

    static void badState(String what, Call call) {
        refused(what, IllegalStateException.class, call);
    }

    /** That the call is refused, and that every other call answers as if it had not been. */
    static void leavesAll(String what, Class<? extends RuntimeException> want, Use use) {
        changesOnly(what, want, use);
    }

    /** The same of a call that is refused only after another one, which is made in any case. */
    static void leavesAllAfter(Use first, String what, Class<? extends RuntimeException> want, Use use) {
        ByteShapes used = InUse.make();
        first.answer(used);
        refused(what, want, () -> use.answer(used));
        ByteShapes other = InUse.make();
        first.answer(other);
        compare(what, other, used);
    }

    /** That the call is refused, and that other calls show it in these parts of the object alone. */
    static void changesOnly(String what, Class<? extends RuntimeException> want, Use use, String... parts) {
        ByteShapes used = InUse.make();
        refused(what, want, () -> use.answer(used));
        compare(what, InUse.make(), used, parts);
    }

    private static void compare(String what, ByteShapes before, ByteShapes after, String... parts) {
        List<String> mayDiffer = Arrays.asList(parts);
        Map<String, String> due = InUse.look(before);
        Map<String, String> got = InUse.look(after);
        for (String part : due.keySet()) {
            checked++;
            boolean alike = due.get(part).equals(got.get(part));
            if (alike == mayDiffer.contains(part)) {
                tell(what + (alike ? " leaves " : " changes ") + part + ": " + got.get(part));
            }
        }
    }

    /** That an answered call shows in these parts of the object alone. */
    static void answersAndChangesOnly(String what, long want, Use use, String... parts) {
        ByteShapes used = InUse.make();
        equal(what, want, use.answer(used));
        compare(what, InUse.make(), used, parts);
    }

    /** That the bytes are refused in slot 0, with what was wrong and where. */
    static void fault(String what, ByteShapes shapes, Wkb bytes, int wrongness, int place) {
        bytes.feedTo(shapes);
        badArgument(what + ": read(0)", () -> shapes.read(0));
        equal(what + ": fault(0)", wrongness, shapes.fault(0));
        equal(what + ": fault(1)", place, shapes.fault(1));
        equal(what + ": count(0, 0)", 0, shapes.count(0, 0));
        equal(what + ": count(0, 1)", 0, shapes.count(0, 1));
        equal(what + ": count(0, 2)", 0, shapes.count(0, 2));
    }

    /** That the bytes are read into a slot, with this plan. */
    static void reads(String what, ByteShapes shapes, int slot, Wkb bytes, int... plan) {
        bytes.feedTo(shapes);
        equal(what + ": read", plan[0], shapes.read(slot));
        equal(what + ": fault(0)", 0, shapes.fault(0));
        equal(what + ": fault(1)", 0, shapes.fault(1));
        equal(what + ": numbers of the plan", plan.length, shapes.count(slot, 0));
        for (int i = 0; i < plan.length; i++) {
            equal(what + ": plan number " + i, plan[i], shapes.plan(slot, i));
        }
    }

    /** That the points of a slot are these, x and y in turn. */
    static void points(String what, ByteShapes shapes, int slot, int... values) {
        equal(what + ": points", values.length / 2, shapes.count(slot, 1));
        for (int i = 0; i < values.length; i++) {
            equal(what + ": ordinate " + i, values[i], shapes.ordinate(slot, i / 2, i % 2));
        }
    }

    /** That the result is these bytes. */
    static void result(String what, ByteShapes shapes, Wkb bytes) {
        byte[] due = bytes.bytes();
        equal(what + ": bytes", due.length, shapes.count(0, 3));
        for (int i = 0; i < due.length; i++) {
            equal(what + ": byte " + i, due[i] & 255, shapes.byteAt(i));
        }
    }

    static void done() {
        endSentence();
        System.out.println(checked + " answers looked at, " + wrong + " not as due");
        if (wrong != 0 || checked == 0) {
            System.exit(1);
        }
    }
}
