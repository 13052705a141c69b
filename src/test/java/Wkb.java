import java.io.ByteArrayOutputStream;

/** Bytes of shapes, built piece by piece. */
final class Wkb {
    static final long INFINITE = 0x7FF0000000000000L;
    static final long NO_NUMBER = 0x7FF8000000000000L;

    private final ByteArrayOutputStream out = new ByteArrayOutputStream();
    private boolean lowFirst;

    static Wkb bytes(int... values) {
        return new Wkb().raw(values);
    }

    /** The order, which what follows keeps to, and the type. */
    static Wkb shape(int order, long type) {
        return new Wkb().part(order, type);
    }

    Wkb part(int order, long type) {
        lowFirst = order == 1;
        return raw(order).number(type);
    }

    Wkb raw(int... values) {
        for (int value : values) {
            out.write(value);
        }
        return this;
    }

    /** Four bytes: a count, a type or a mark. */
    Wkb number(long number) {
        return put(number, 4);
    }

    Wkb bits(long... fractions) {
        for (long fraction : fractions) {
            put(fraction, 8);
        }
        return this;
    }

    Wkb xy(double... values) {
        for (double value : values) {
            bits(Double.doubleToRawLongBits(value));
        }
        return this;
    }

    private Wkb put(long number, int length) {
        for (int i = 0; i < length; i++) {
            out.write((int) (number >>> 8 * (lowFirst ? i : length - 1 - i)));
        }
        return this;
    }

    Wkb cut(int length) {
        byte[] all = bytes();
        Wkb shorter = new Wkb();
        shorter.out.write(all, 0, length);
        return shorter;
    }

    byte[] bytes() {
        return out.toByteArray();
    }

    int feedTo(ByteShapes shapes) {
        return feed(shapes, bytes());
    }

    /** What is no twenty bytes comes first, so that a tape can be fed up to its last byte. */
    static int feed(ByteShapes shapes, byte[] bytes) {
        int size = shapes.count(0, 2);
        int odd = bytes.length % 20;
        if (odd != 0) {
            feedTwenty(shapes, bytes, 0);
            size = shapes.end(odd);
        }
        for (int i = odd; i < bytes.length; i += 20) {
            size = feedTwenty(shapes, bytes, i);
        }
        return size;
    }

    private static int feedTwenty(ByteShapes shapes, byte[] bytes, int at) {
        return shapes.feed(four(bytes, at), four(bytes, at + 4), four(bytes, at + 8),
            four(bytes, at + 12), four(bytes, at + 16));
    }

    private static int four(byte[] bytes, int at) {
        int number = 0;
        for (int i = at; i < at + 4; i++) {
            number = number << 8 | (i < bytes.length ? bytes[i] & 255 : 0);
        }
        return number;
    }
}
