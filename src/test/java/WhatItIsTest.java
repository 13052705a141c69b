import java.util.Arrays;
import java.util.Random;

/** What it is: any bytes are read, and what is wrong first is told, as the model does. */
public final class WhatItIsTest {
    private static final long NONE = Wkb.NO_NUMBER;
    /** So many shapes of these tests are fed, read and looked at in less than 512 calls. */
    private static final int READS = 10;

    // The object in use, how it was made, and how often it is used again.
    private static ByteShapes shapes;
    private static int[] madeWith = {};
    private static int readsLeft;

    public static void main(String[] args) {
        Check.says("read from any bytes whatsoever, exactly, with the first thing that is wrong and where");
        shortRows();
        spoiltShapes();
        drawnBytes();
        Check.done();
    }

    private static void shortRows() {
        compare(0, 3, 9);
        for (int first = 0; first < 256; first++) {
            compare(0, 3, 9, first);
            for (int second = 0; second < 256; second++) {
                compare(0, 3, 9, first, second);
            }
        }
    }

    private static void spoiltShapes() {
        Wkb[] all = {
            Wkb.shape(0, 1).xy(1.25, -1e9),
            Wkb.shape(1, 1).bits(NONE, -1L),
            Wkb.shape(1, 2).number(2).xy(0.5, 1.5, -0.0, 2.5),
            Wkb.shape(0, 0x20000003L).number(4326).number(2).number(1).xy(1, 2).number(1).xy(3, 4),
            Wkb.shape(1, 4).number(2).part(0, 1).xy(1, 2).part(1, 1).bits(NONE, NONE),
            Wkb.shape(0, 5).number(2).part(0, 2).number(0).part(1, 0x20000002L).number(1).number(1).xy(7, 8),
            Wkb.shape(1, 6).number(1).part(0, 3).number(1).number(2).xy(1e5, 0.001, 1e6, 1e-300),
            Wkb.shape(0, 7).number(3).part(1, 7).number(0).part(0, 1).xy(3, 4).part(1, 2).number(1).xy(5, 6),
        };
        for (int i = 0; i < all.length; i++) {
            eachLength(i, all[i].bytes());
            eachByte(i, all[i].bytes());
        }
    }

    private static void eachLength(int digits, byte[] bytes) {
        for (int room = 1; room <= 6; room++) {
            for (int length = 0; length <= bytes.length + 2; length++) {
                compare(digits, room, room, values(Arrays.copyOf(bytes, length)));
            }
        }
    }

    private static void eachByte(int digits, byte[] bytes) {
        int[] values = values(bytes);
        for (int at = 0; at < values.length; at++) {
            int[] spoilt = values.clone();
            for (spoilt[at] = 0; spoilt[at] < 256; spoilt[at]++) {
                compare(digits, 3, 9, spoilt);
            }
        }
    }

    /** Bytes of few values, so that many of them are orders, types and counts. */
    private static void drawnBytes() {
        Random random = new Random(9);
        int[] likely = {0, 0, 0, 0, 0, 0, 1, 1, 2, 3, 4, 5, 6, 7, 0x20, 0x3F, 0x40, 0x7F, 0x80, 0xF0, 0xFF};
        for (int i = 0; i < 100000; i++) {
            int[] values = random.ints(random.nextInt(90), 0, likely.length).map(drawn -> likely[drawn]).toArray();
            if (values.length > 4 && random.nextInt(4) > 0) {
                // An order and a type that are right, or the rest is hardly ever come to.
                Arrays.fill(values, 0, 4, 0);
                values[4] = 1 + random.nextInt(7);
            }
            compare(i / 1000, 3, 9, values);
        }
    }

    private static int[] values(byte[] bytes) {
        int[] values = new int[bytes.length];
        for (int i = 0; i < bytes.length; i++) {
            values[i] = bytes[i] & 255;
        }
        return values;
    }

    private static void makeOrUseAgain(int digits, int points, int plan) {
        int[] asked = {digits, points, plan};
        if (readsLeft == 0 || !Arrays.equals(asked, madeWith)) {
            shapes = new ByteShapes(digits, points, plan);
            madeWith = asked;
            readsLeft = READS;
        }
        readsLeft--;
    }

    private static void compare(int digits, int points, int plan, int... values) {
        makeOrUseAgain(digits, points, plan);
        Model model = new Model(digits, points, plan);
        byte[] bytes = Wkb.bytes(values).bytes();
        Wkb.feed(shapes, bytes);
        model.feedAll(bytes);
        String got = seen(() -> shapes.read(1), shapes::fault, shapes::count, shapes::plan, shapes::ordinate);
        String due = seen(() -> model.read(1), model::fault, model::count, model::plan, model::ordinate);
        Check.isTrue(Arrays.toString(values) + " with " + digits + " digits, " + points + " points and " + plan
            + " plan numbers is " + got + ", due is " + due + ", which", got.equals(due));
    }

    private interface One {
        int of(int what);
    }

    private interface Two {
        int of(int slot, int i);
    }

    private interface Three {
        int of(int slot, int i, int what);
    }

    private static String seen(Check.Call read, One fault, Two count, Two plan, Three ordinate) {
        StringBuilder text = new StringBuilder();
        try {
            text.append(read.answer());
        } catch (RuntimeException e) {
            text.append(e.getClass().getName());
        }
        text.append(", fault ").append(fault.of(0)).append(" at ").append(fault.of(1)).append(", plan");
        for (int i = 0; i < count.of(1, 0); i++) {
            text.append(" ").append(plan.of(1, i));
        }
        text.append(", points");
        for (int i = 0; i < count.of(1, 1); i++) {
            text.append(" ").append(ordinate.of(1, i, 0)).append("/").append(ordinate.of(1, i, 1));
        }
        return text.toString();
    }
}
