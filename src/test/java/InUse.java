import java.util.Map;
import java.util.TreeMap;

/** An object in full use, and all that its calls show of it. */
final class InUse {
    static final int TAPE_BYTES = 41;
    static final int RESULT_BYTES = 21;

    private InUse() {
    }

    /** One digit; shapes in slots 0 to 2, the last an empty POINT; a result, a fault and a tape. */
    static ByteShapes make() {
        ByteShapes shapes = new ByteShapes(1, 10, 20);
        Wkb.shape(0, 3).number(2).number(1).xy(0.1, 0.2).number(2).xy(0.3, 0.4, 0.5, 0.6).feedTo(shapes);
        shapes.read(0);
        Wkb.shape(1, 1).xy(7.5, -8.5).feedTo(shapes);
        shapes.read(1);
        Wkb.shape(0, 1).bits(Wkb.NO_NUMBER, Wkb.NO_NUMBER).feedTo(shapes);
        shapes.read(2);
        shapes.write(1, 1);
        Wkb.shape(0, 1).xy(1, 2).raw(0).feedTo(shapes);
        Check.badArgument("something behind a POINT", () -> shapes.read(3));
        Wkb.shape(1, 2).number(2).xy(1.5, 2.5, -3.5, -4.5).feedTo(shapes);
        return shapes;
    }

    /** What is seen of each part; the tape comes last, as it can only be read. */
    static Map<String, String> look(ByteShapes shapes) {
        Map<String, String> seen = new TreeMap<>();
        for (int slot = 0; slot < 4; slot++) {
            seen.put("slot " + slot, slot(shapes, slot));
        }
        seen.put("fault", shapes.fault(0) + " at " + shapes.fault(1));
        seen.put("result", result(shapes));
        seen.put("tape", tape(shapes));
        return seen;
    }

    private static String slot(ByteShapes shapes, int slot) {
        StringBuilder text = new StringBuilder("plan");
        for (int i = 0; i < shapes.count(slot, 0); i++) {
            text.append(" ").append(shapes.plan(slot, i));
        }
        text.append(", points");
        for (int i = 0; i < shapes.count(slot, 1); i++) {
            text.append(" ").append(shapes.ordinate(slot, i, 0)).append("/").append(shapes.ordinate(slot, i, 1));
        }
        return text.toString();
    }

    private static String result(ByteShapes shapes) {
        StringBuilder text = new StringBuilder();
        for (int i = 0; i < shapes.count(0, 3); i++) {
            text.append(" ").append(shapes.byteAt(i));
        }
        return text.toString();
    }

    private static String tape(ByteShapes shapes) {
        int size = shapes.count(0, 2);
        try {
            return size + " bytes, read as " + shapes.read(0) + ": " + slot(shapes, 0);
        } catch (IllegalArgumentException e) {
            return size + " bytes, fault " + shapes.fault(0) + " at " + shapes.fault(1);
        }
    }
}
