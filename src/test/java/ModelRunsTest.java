import java.util.Arrays;
import java.util.Random;

/** Long runs of calls, drawn from a fixed seed: the class and the model answer alike. */
public final class ModelRunsTest {
    private static final int RUNS = 4000;
    private static final int[] EDGES = {-1, 0, 1, 2, 3, 4, 5, 19, 20, 21, Integer.MIN_VALUE, Integer.MAX_VALUE};

    private final Random random;
    private final int digits;
    private final ByteShapes shapes;
    private final Model model;
    private final StringBuilder told = new StringBuilder();
    private final int[] faults;
    private int callsLeft = 512;

    private ModelRunsTest(long seed, int[] faults) {
        random = new Random(seed);
        digits = random.nextInt(4);
        int points = random.nextInt(3) == 0 ? random.nextInt(8) : random.nextInt(300);
        int plan = random.nextInt(3) == 0 ? random.nextInt(12) : random.nextInt(300);
        shapes = new ByteShapes(digits, points, plan);
        model = new Model(digits, points, plan);
        told.append("seed ").append(seed).append(": new(").append(digits).append(", ").append(points)
            .append(", ").append(plan).append(")");
        this.faults = faults;
    }

    public static void main(String[] args) {
        int[] faults = new int[10];
        int runs = args.length > 0 ? Integer.parseInt(args[0]) : RUNS;
        for (int run = 0; run < runs; run++) {
            new ModelRunsTest(run, faults).run();
        }
        System.out.println("faults met: " + Arrays.toString(faults));
        for (int fault = 0; fault < faults.length; fault++) {
            Check.isTrue("fault " + fault + " was met", faults[fault] > 0);
        }
        Check.done();
    }

    private void run() {
        while (callsLeft > 0) {
            switch (random.nextInt(8)) {
                case 0: case 1: case 2:
                    feedShape(random.nextInt(3) == 0);
                    readTape();
                    break;
                case 3:
                    writeAndRead();
                    break;
                case 4:
                    lookAtSlot(random.nextInt(4));
                    break;
                default:
                    anyCall();
            }
        }
    }

    private void same(String call, Check.Call one, Check.Call other) {
        if (callsLeft == 0) {
            return;
        }
        callsLeft--;
        told.append("\n  ").append(call);
        String got = answer(one);
        String due = answer(other);
        if (!got.equals(due)) {
            Check.isTrue(told + " answered " + got + ", due is " + due + ", which", false);
            callsLeft = 0;
        } else {
            Check.isTrue(call, true);
        }
    }

    private static String answer(Check.Call call) {
        try {
            return Long.toString(call.answer());
        } catch (RuntimeException e) {
            return e.getClass().getName();
        }
    }

    private void feedFive(int a, int b, int c, int d, int e) {
        same("feed(" + a + ", " + b + ", " + c + ", " + d + ", " + e + ")",
            () -> shapes.feed(a, b, c, d, e), () -> model.feed(a, b, c, d, e));
    }

    private void endAt(int n) {
        same("end(" + n + ")", () -> shapes.end(n), () -> model.end(n));
    }

    private void feedShape(boolean spoilt) {
        Wkb built = new Wkb();
        int deep = random.nextInt(60) == 0 ? 46 + random.nextInt(6) : 0;
        for (int i = 0; i < deep; i++) {
            built.part(random.nextInt(2), 7).number(1);
        }
        addShape(built, 1 + random.nextInt(7), 0);
        byte[] bytes = built.bytes();
        if (spoilt) {
            bytes = spoil(bytes);
        }
        for (int i = 0; i < bytes.length; i += 20) {
            byte[] part = Arrays.copyOfRange(bytes, i, i + 20);
            java.nio.ByteBuffer five = java.nio.ByteBuffer.wrap(part);
            feedFive(five.getInt(), five.getInt(), five.getInt(), five.getInt(), five.getInt());
            if (bytes.length - i < 20) {
                endAt(bytes.length - i);
            }
        }
    }

    private byte[] spoil(byte[] bytes) {
        byte[] spoilt = bytes;
        for (int i = random.nextInt(3); i >= 0; i--) {
            int at = spoilt.length == 0 ? 0 : random.nextInt(spoilt.length);
            switch (random.nextInt(4)) {
                case 0:
                    spoilt = Arrays.copyOf(spoilt, at);
                    break;
                case 1:
                    spoilt = Arrays.copyOf(spoilt, spoilt.length + 1 + random.nextInt(9));
                    break;
                default:
                    if (spoilt.length > 0) {
                        int[] likely = {0, 1, 2, 7, 128, 255, 1 << random.nextInt(8), random.nextInt(256)};
                        spoilt[random.nextInt(2) == 0 ? at : at % Math.min(spoilt.length, 14)] =
                            (byte) likely[random.nextInt(likely.length)];
                    }
            }
        }
        return spoilt;
    }

    private void addShape(Wkb built, int kind, int depth) {
        long type = kind;
        boolean marked = random.nextInt(8) == 0;
        if (random.nextInt(150) == 0) {
            type += new long[] {1000, 2000, 3000, 0x80000000L, 0x40000000L}[random.nextInt(5)];
        }
        built.part(random.nextInt(2), marked ? type + 0x20000000L : type);
        if (marked) {
            built.number(random.nextInt());
        }
        if (kind == 1) {
            addPoint(built);
            return;
        }
        int parts = random.nextInt(depth > 2 ? 2 : 5);
        built.number(parts);
        for (int i = 0; i < parts; i++) {
            if (kind == 2) {
                addCoordinate(built);
            } else if (kind == 3) {
                addRing(built);
            } else {
                addPart(built, kind == 7 ? 1 + random.nextInt(7) : kind - 3, depth);
            }
        }
    }

    /** A part has an order of its own, which must not be that of what follows it. */
    private void addPart(Wkb built, int kind, int depth) {
        Wkb part = new Wkb();
        addShape(part, kind, depth + 1);
        for (byte value : part.bytes()) {
            built.raw(value & 255);
        }
    }

    private void addPoint(Wkb built) {
        switch (random.nextInt(12)) {
            case 0: case 1:
                built.bits(noNumber(), noNumber());
                break;
            case 2:
                built.bits(random.nextInt(4) == 0 ? noNumber() : Double.doubleToRawLongBits(value()), noNumber());
                break;
            default:
                addCoordinate(built);
        }
    }

    private long noNumber() {
        return 0x7FF0000000000000L | 1L << random.nextInt(52) | (random.nextBoolean() ? 1L << 63 : 0);
    }

    private void addRing(Wkb built) {
        int points = random.nextInt(40) == 0 ? 0 : 1 + random.nextInt(4);
        built.number(points);
        for (int i = 0; i < points; i++) {
            addCoordinate(built);
        }
    }

    private void addCoordinate(Wkb built) {
        built.xy(value(), value());
    }

    private double value() {
        double unit = Math.pow(10, digits);
        switch (random.nextInt(14)) {
            case 0:
                return (random.nextInt(4000) - 2000 + 0.5) / unit;
            case 1:
                return near((random.nextInt(4000) - 2000 + 0.5) / unit);
            case 2:
                return random.nextInt(4000) / 16.0 - 100;
            case 3:
                return random.nextInt(4000) / 65536.0;
            case 4:
                return near((random.nextBoolean() ? 1e9 : -1e9) / unit);
            case 5:
                return random.nextInt(6) > 0 ? 0 : (random.nextBoolean() ? 1e9 + 0.5 : -1e9 - 0.5) / unit;
            case 6:
                return random.nextInt(6) > 0 ? -0.0 : Double.longBitsToDouble(random.nextLong());
            case 7:
                return Double.longBitsToDouble((long) (1023 - 64 + random.nextInt(90)) << 52
                    | random.nextLong() & 0x800FFFFFFFFFFFFFL);
            case 8:
                return Double.MIN_VALUE * random.nextInt(3);
            default:
                return (random.nextInt(2000000001) - 1000000000) / unit;
        }
    }

    private double near(double value) {
        int step = random.nextInt(3) - 1;
        return step == 0 ? value : step < 0 ? Math.nextDown(value) : Math.nextUp(value);
    }

    private void readTape() {
        int slot = random.nextInt(20) == 0 ? edge() : random.nextInt(4);
        same("read(" + slot + ")", () -> shapes.read(slot), () -> model.read(slot));
        same("fault(0)", () -> shapes.fault(0), () -> model.fault(0));
        same("fault(1)", () -> shapes.fault(1), () -> model.fault(1));
        faults[model.fault(0)]++;
        if (random.nextInt(6) == 0) {
            lookAtSlot(slot);
        }
    }

    private void lookAtSlot(int slot) {
        for (int what = 0; what < 4; what++) {
            int asked = what;
            same("count(" + slot + ", " + what + ")", () -> shapes.count(slot, asked), () -> model.count(slot, asked));
        }
        if (slot < 0 || slot > 3) {
            return;
        }
        for (int i = 0; i <= model.count(slot, 0); i++) {
            int asked = i;
            same("plan(" + slot + ", " + i + ")", () -> shapes.plan(slot, asked), () -> model.plan(slot, asked));
        }
        for (int i = 0; i <= 2 * model.count(slot, 1); i++) {
            int asked = i;
            same("ordinate(" + slot + ", " + i / 2 + ", " + i % 2 + ")",
                () -> shapes.ordinate(slot, asked / 2, asked % 2), () -> model.ordinate(slot, asked / 2, asked % 2));
        }
    }

    private void writeAndRead() {
        int slot = random.nextInt(4);
        int order = random.nextInt(2);
        same("write(" + slot + ", " + order + ")", () -> shapes.write(slot, order), () -> model.write(slot, order));
        if (random.nextInt(4) == 0) {
            for (int i = 0; i <= model.resultBytes().length; i++) {
                int asked = i;
                same("byteAt(" + i + ")", () -> shapes.byteAt(asked), () -> model.byteAt(asked));
            }
        }
        same("again()", shapes::again, model::again);
        int other = random.nextInt(4);
        same("read(" + other + ")", () -> shapes.read(other), () -> model.read(other));
        same("same(" + slot + ", " + other + ")",
            () -> shapes.same(slot, other) ? 1 : 0, () -> model.same(slot, other) ? 1 : 0);
    }

    private int edge() {
        return EDGES[random.nextInt(EDGES.length)];
    }

    private void anyCall() {
        int a = edge();
        int b = edge();
        int c = edge();
        switch (random.nextInt(12)) {
            case 0:
                feedFive(a, b, c, random.nextInt(), random.nextInt());
                break;
            case 1:
                endAt(random.nextBoolean() ? a : random.nextInt(22));
                break;
            case 2:
                same("read(" + a + ")", () -> shapes.read(a), () -> model.read(a));
                break;
            case 3:
                same("fault(" + a + ")", () -> shapes.fault(a), () -> model.fault(a));
                break;
            case 4:
                same("write(" + a + ", " + b + ")", () -> shapes.write(a, b), () -> model.write(a, b));
                break;
            case 5:
                same("again()", shapes::again, model::again);
                break;
            case 6: case 7:
                same("same(" + a + ", " + b + ")",
                    () -> shapes.same(a, b) ? 1 : 0, () -> model.same(a, b) ? 1 : 0);
                break;
            case 8:
                same("plan(" + a + ", " + b + ")", () -> shapes.plan(a, b), () -> model.plan(a, b));
                break;
            case 9:
                same("ordinate(" + a + ", " + b + ", " + c + ")",
                    () -> shapes.ordinate(a, b, c), () -> model.ordinate(a, b, c));
                break;
            case 10:
                same("byteAt(" + a + ")", () -> shapes.byteAt(a), () -> model.byteAt(a));
                break;
            default:
                same("count(" + a + ", " + b + ")", () -> shapes.count(a, b), () -> model.count(a, b));
        }
    }
}
