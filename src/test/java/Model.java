import java.math.BigDecimal;
import java.math.RoundingMode;
import java.nio.ByteBuffer;
import java.nio.ByteOrder;
import java.util.ArrayList;
import java.util.Arrays;
import java.util.List;

/** The document once more, by other means: recursion, lists and decimals of any length. */
final class Model {
    private static final class Wrong extends Exception {
        private static final long serialVersionUID = 1;
        final int what;
        final int place;

        Wrong(int what, int place) {
            this.what = what;
            this.place = place;
        }
    }

    private static final BigDecimal MOST = BigDecimal.valueOf(1000000000);

    private final int digits;
    private final int points;
    private final int plan;
    private final List<List<Integer>> plans = new ArrayList<>();
    private final List<List<Integer>> values = new ArrayList<>();
    private byte[] tape = {};
    private byte[] result = {};
    private int wrong;
    private int place;
    private ByteBuffer in;
    private List<Integer> planRead;
    private List<Integer> valuesRead;

    Model(int digits, int points, int plan) {
        this.digits = digits & 3;
        this.points = Math.max(1, Math.min(4096, points));
        this.plan = Math.max(2, Math.min(4096, plan));
        for (int slot = 0; slot < 4; slot++) {
            plans.add(new ArrayList<>());
            values.add(new ArrayList<>());
        }
    }

    private static <T> T at(List<T> list, int i) {
        if (i < 0 || i >= list.size()) {
            throw new IndexOutOfBoundsException();
        }
        return list.get(i);
    }

    int feed(int... five) {
        if (tape.length + 20 > 65536) {
            throw new IllegalStateException();
        }
        int from = tape.length;
        tape = Arrays.copyOf(tape, from + 20);
        ByteBuffer.wrap(tape, from, 20).putInt(five[0]).putInt(five[1]).putInt(five[2]).putInt(five[3]).putInt(five[4]);
        return tape.length;
    }

    /** Puts these bytes on the tape, and no others. */
    void feedAll(byte[] bytes) {
        tape = bytes.clone();
    }

    int end(int n) {
        if (n < 0 || n > 20) {
            throw new IllegalArgumentException();
        }
        if (tape.length < 20) {
            throw new IllegalStateException();
        }
        tape = Arrays.copyOf(tape, tape.length - 20 + n);
        return tape.length;
    }

    int read(int slot) {
        in = ByteBuffer.wrap(tape);
        tape = new byte[0];
        at(plans, slot);
        wrong = 0;
        place = 0;
        planRead = new ArrayList<>();
        valuesRead = new ArrayList<>();
        try {
            readShape(0, 0);
            if (in.hasRemaining()) {
                throw new Wrong(8, in.position());
            }
        } catch (Wrong e) {
            wrong = e.what;
            place = e.place;
            planRead.clear();
            valuesRead.clear();
        }
        plans.set(slot, planRead);
        values.set(slot, valuesRead);
        if (wrong != 0) {
            throw new IllegalArgumentException();
        }
        return planRead.get(0);
    }

    private void need(int length) throws Wrong {
        if (in.remaining() < length) {
            throw new Wrong(3, in.position());
        }
    }

    private void readShape(int due, int collections) throws Wrong {
        need(1);
        int order = in.get(in.position());
        if (order != 0 && order != 1) {
            throw new Wrong(1, in.position());
        }
        in.get();
        ByteOrder here = order == 0 ? ByteOrder.BIG_ENDIAN : ByteOrder.LITTLE_ENDIAN;
        in.order(here);
        need(4);
        int typeAt = in.position();
        int type = in.getInt();
        int rest = type & 0x1FFFFFFF;
        int kind = 0;
        for (int k = 1; k <= 7; k++) {
            if (rest == k || rest == k + 1000 || rest == k + 2000 || rest == k + 3000) {
                kind = k;
            }
        }
        if (kind == 0 || due != 0 && kind != due) {
            throw new Wrong(2, typeAt);
        }
        if (rest > 1000 || (type >>> 30) != 0) {
            throw new Wrong(9, typeAt);
        }
        if (kind == 7 && collections == 50) {
            throw new Wrong(6, typeAt);
        }
        if ((type >> 29 & 1) == 1) {
            need(4);
            in.getInt();
        }
        if (planRead.size() + 2 > plan) {
            throw new Wrong(7, in.position());
        }
        planRead.add(kind);
        if (kind == 1) {
            readPoint();
            return;
        }
        need(4);
        long count = in.getInt() & 0xFFFFFFFFL;
        planRead.add((int) count);
        for (long i = 0; i < count; i++) {
            if (kind == 2) {
                readCoordinate();
            } else if (kind == 3) {
                readRing();
            } else {
                readShape(kind == 7 ? 0 : kind - 3, collections + (kind == 7 ? 1 : 0));
            }
            in.order(here);
        }
    }

    private void readPoint() throws Wrong {
        int at = in.position();
        if (in.remaining() >= 16 && Double.isNaN(in.getDouble(at)) && Double.isNaN(in.getDouble(at + 8))) {
            in.position(at + 16);
            planRead.add(0);
            return;
        }
        planRead.add(1);
        readCoordinate();
    }

    private void readRing() throws Wrong {
        if (planRead.size() + 1 > plan) {
            throw new Wrong(7, in.position());
        }
        need(4);
        long count = in.getInt() & 0xFFFFFFFFL;
        if (count == 0) {
            throw new Wrong(4, in.position() - 4);
        }
        planRead.add((int) count);
        for (long i = 0; i < count; i++) {
            readCoordinate();
        }
    }

    private void readCoordinate() throws Wrong {
        if (valuesRead.size() / 2 + 1 > points) {
            throw new Wrong(7, in.position());
        }
        for (int i = 0; i < 2; i++) {
            need(8);
            double value = in.getDouble();
            if (Double.isNaN(value) || Double.isInfinite(value)) {
                throw new Wrong(4, in.position() - 8);
            }
            BigDecimal whole = new BigDecimal(value).movePointRight(digits).setScale(0, RoundingMode.HALF_EVEN);
            if (whole.abs().compareTo(MOST) > 0) {
                throw new Wrong(5, in.position() - 8);
            }
            valuesRead.add(whole.intValueExact());
        }
    }

    int fault(int what) {
        return at(List.of(wrong, place), what);
    }

    int write(int slot, int order) {
        List<Integer> numbers = at(plans, slot);
        if (order != 0 && order != 1) {
            throw new IllegalArgumentException();
        }
        if (numbers.isEmpty()) {
            throw new IllegalStateException();
        }
        ByteBuffer out = ByteBuffer.allocate(200000);
        out.order(order == 0 ? ByteOrder.BIG_ENDIAN : ByteOrder.LITTLE_ENDIAN);
        writeShape(out, (byte) order, numbers, 0, values.get(slot), new int[] {0});
        result = Arrays.copyOf(out.array(), out.position());
        return result.length;
    }

    private int writeShape(ByteBuffer out, byte order, List<Integer> numbers, int from, List<Integer> xy, int[] next) {
        int kind = numbers.get(from);
        int count = numbers.get(from + 1);
        int at = from + 2;
        out.put(order).putInt(kind);
        if (kind == 1 && count == 0) {
            out.putLong(0x7FF8000000000000L).putLong(0x7FF8000000000000L);
        } else if (kind == 1) {
            writePoints(out, 1, xy, next);
        } else {
            out.putInt(count);
            if (kind == 2) {
                writePoints(out, count, xy, next);
            }
            for (int i = 0; kind > 2 && i < count; i++) {
                if (kind == 3) {
                    out.putInt(numbers.get(at));
                    writePoints(out, numbers.get(at), xy, next);
                    at++;
                } else {
                    at = writeShape(out, order, numbers, at, xy, next);
                }
            }
        }
        return at;
    }

    private void writePoints(ByteBuffer out, int count, List<Integer> xy, int[] next) {
        for (int i = 0; i < 2 * count; i++) {
            out.putDouble(Double.parseDouble(xy.get(next[0]) + "e-" + digits));
            next[0]++;
        }
    }

    int again() {
        tape = Arrays.copyOf(result, Math.min(result.length, 65536));
        return tape.length;
    }

    boolean same(int slot, int other) {
        return at(plans, slot).equals(at(plans, other)) && at(values, slot).equals(at(values, other));
    }

    int plan(int slot, int i) {
        return at(at(plans, slot), i);
    }

    int ordinate(int slot, int i, int what) {
        at(plans, slot);
        at(List.of(0, 1), what);
        if (i < 0 || i >= values.get(slot).size() / 2) {
            throw new IndexOutOfBoundsException();
        }
        return values.get(slot).get(2 * i + what);
    }

    int byteAt(int i) {
        if (i < 0 || i >= result.length) {
            throw new IndexOutOfBoundsException();
        }
        return Byte.toUnsignedInt(result[i]);
    }

    int count(int slot, int what) {
        at(plans, slot);
        return at(List.of(plans.get(slot).size(), values.get(slot).size() / 2, tape.length, result.length), what);
    }

    byte[] resultBytes() {
        return result;
    }
}
