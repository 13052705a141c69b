/** Shapes in the plane, read from well-known binary and written as such. */
public final class ByteShapes {
    /** Nothing there. */
    public static final int NONE = -1;

    private static final int SLOTS = 4;
    private static final int TAPE_ROOM = 65536;
    private static final int FED_BYTES = 20;
    private static final int MOST_KEPT = 4096;
    private static final int[] UNITS = {1, 10, 100, 1000};

    private final Shape[] shapes = new Shape[SLOTS];
    private final Row tape = new Row(TAPE_ROOM);
    private final Row result = new Row(TAPE_ROOM);
    private final Reader reader;
    private final Writer writer;

    public ByteShapes(int digits, int points, int plan) {
        int unit = UNITS[digits & 3];
        int pointRoom = between(1, points, MOST_KEPT);
        int planRoom = between(2, plan, MOST_KEPT);
        for (int slot = 0; slot < SLOTS; slot++) {
            shapes[slot] = new Shape(pointRoom, planRoom);
        }
        reader = new Reader(unit);
        writer = new Writer(unit);
    }

    public int feed(int a, int b, int c, int d, int e) throws IllegalStateException {
        if (tape.size() > TAPE_ROOM - FED_BYTES) {
            throw new IllegalStateException("the tape is full");
        }
        tape.append(a, 4, false);
        tape.append(b, 4, false);
        tape.append(c, 4, false);
        tape.append(d, 4, false);
        tape.append(e, 4, false);
        return tape.size();
    }

    public int end(int n) throws IllegalArgumentException, IllegalStateException {
        if (n < 0 || n > FED_BYTES) {
            throw new IllegalArgumentException("not 0 to 20 bytes");
        }
        if (tape.size() < FED_BYTES) {
            throw new IllegalStateException("less than twenty bytes");
        }
        tape.cut(tape.size() - FED_BYTES + n);
        return tape.size();
    }

    public int read(int slot) throws IndexOutOfBoundsException, IllegalArgumentException {
        boolean known = isSlot(slot);
        boolean fine = known && reader.takeAll(tape, shapes[slot]);
        // In any case, also when there is no slot to read into.
        tape.cut(0);
        if (!known) {
            throw new IndexOutOfBoundsException("no such slot");
        }
        if (!fine) {
            throw new IllegalArgumentException("no shape");
        }
        return shapes[slot].planAt(0);
    }

    public int fault(int what) throws IndexOutOfBoundsException {
        if (what < 0 || what > 1) {
            throw new IndexOutOfBoundsException("what is 0 or 1");
        }
        return what == 0 ? reader.wrong() : reader.place();
    }

    public int write(int slot, int order)
            throws IndexOutOfBoundsException, IllegalArgumentException, IllegalStateException {
        Shape shape = shapeIn(slot);
        if (order < 0 || order > 1) {
            throw new IllegalArgumentException("the order is 0 or 1");
        }
        if (shape.planSize() == 0) {
            throw new IllegalStateException("no shape in this slot");
        }
        writer.putAll(shape, result, order);
        return result.size();
    }

    public int again() {
        tape.become(result);
        return tape.size();
    }

    public boolean same(int slot, int other) throws IndexOutOfBoundsException {
        Shape one = shapeIn(slot);
        Shape two = shapeIn(other);
        return one.isLike(two);
    }

    public int plan(int slot, int i) throws IndexOutOfBoundsException {
        return shapeIn(slot).planAt(i);
    }

    public int ordinate(int slot, int i, int what) throws IndexOutOfBoundsException {
        return shapeIn(slot).valueOfPoint(i, what);
    }

    public int byteAt(int i) throws IndexOutOfBoundsException {
        return result.valueAt(i);
    }

    public int count(int slot, int what) throws IndexOutOfBoundsException {
        Shape shape = shapeIn(slot);
        switch (what) {
            case 0:
                return shape.planSize();
            case 1:
                return shape.pointSize();
            case 2:
                return tape.size();
            case 3:
                return result.size();
            default:
                throw new IndexOutOfBoundsException("what is 0 to 3");
        }
    }

    private static boolean isSlot(int slot) {
        return slot >= 0 && slot < SLOTS;
    }

    private Shape shapeIn(int slot) {
        if (!isSlot(slot)) {
            throw new IndexOutOfBoundsException("no such slot");
        }
        return shapes[slot];
    }

    private static int between(int least, int number, int most) {
        return Math.max(least, Math.min(number, most));
    }

    /** The kinds of shapes, by the numbers that types and plans have for them. */
    private static final class Kind {
        static final int POINT = 1;
        static final int LINESTRING = 2;
        static final int POLYGON = 3;
        static final int COLLECTION = 7;
        /** What a shape has to be where it may be any. */
        static final int ANY = 0;

        private static final int MORE_BITS = 0xC0000000;
        private static final int MARK_BIT = 0x20000000;
        private static final int REST_BITS = 0x1FFFFFFF;

        private Kind() {
        }

        /** The kind that a type tells, or ANY when it tells none. */
        static int ofType(int type) {
            int rest = type & REST_BITS;
            int kind = rest % 1000;
            boolean known = rest < 4000 && kind >= POINT && kind <= COLLECTION;
            return known ? kind : ANY;
        }

        static boolean hasMoreCoordinates(int type) {
            return (type & MORE_BITS) != 0 || (type & REST_BITS) >= 1000;
        }

        static boolean hasMark(int type) {
            return (type & MARK_BIT) != 0;
        }
    }

    /** A row of bytes with a room that never grows. */
    private static final class Row {
        private final byte[] bytes;
        private int size;

        Row(int room) {
            bytes = new byte[Math.max(0, room)];
        }

        int size() {
            return size;
        }

        void cut(int newSize) {
            size = between(0, newSize, size);
        }

        int valueAt(int i) {
            if (i < 0 || i >= size) {
                throw new IndexOutOfBoundsException("no such byte");
            }
            return bytes[i] & 255;
        }

        long numberAt(int start, int length, boolean lowFirst) {
            if (start < 0 || length < 0 || length > size - start) {
                throw new IndexOutOfBoundsException("no such bytes");
            }
            long number = 0;
            for (int i = 0; i < length; i++) {
                int from = lowFirst ? start + length - 1 - i : start + i;
                number = number << 8 | bytes[from] & 255;
            }
            return number;
        }

        // Nothing is ever left out here: feed looks at the room first, and a shape is
        // written in no more bytes than the tape had for it.
        void append(long number, int length, boolean lowFirst) {
            for (int i = 0; i < length && size < bytes.length; i++) {
                int shift = 8 * (lowFirst ? i : length - 1 - i);
                bytes[size] = (byte) (number >>> shift);
                size++;
            }
        }

        void become(Row other) {
            size = Math.min(other.size, bytes.length);
            System.arraycopy(other.bytes, 0, bytes, 0, size);
        }
    }

    /** The plan and the points of one slot; without plan numbers there is no shape. */
    private static final class Shape {
        private final int[] numbers;
        private final int[] values;
        private int numbersKept;
        private int valuesKept;

        Shape(int pointRoom, int planRoom) {
            numbers = new int[Math.max(0, planRoom)];
            values = new int[2 * Math.max(0, pointRoom)];
        }

        void clear() {
            numbersKept = 0;
            valuesKept = 0;
        }

        int planSize() {
            return numbersKept;
        }

        int pointSize() {
            return valuesKept / 2;
        }

        boolean hasRoomForPlan(int more) {
            return more <= numbers.length - numbersKept;
        }

        boolean hasRoomForPoint() {
            return valuesKept <= values.length - 2;
        }

        void addNumber(int number) {
            if (numbersKept < numbers.length) {
                numbers[numbersKept] = number;
                numbersKept++;
            }
        }

        void addValue(int value) {
            if (valuesKept < values.length) {
                values[valuesKept] = value;
                valuesKept++;
            }
        }

        int planAt(int i) {
            if (i < 0 || i >= numbersKept) {
                throw new IndexOutOfBoundsException("no such plan number");
            }
            return numbers[i];
        }

        int valueOfPoint(int i, int what) {
            if (i < 0 || i >= pointSize() || what < 0 || what > 1) {
                throw new IndexOutOfBoundsException("no such x or y");
            }
            return values[2 * i + what];
        }

        boolean isLike(Shape other) {
            return startsAlike(numbers, numbersKept, other.numbers, other.numbersKept)
                && startsAlike(values, valuesKept, other.values, other.valuesKept);
        }

        private static boolean startsAlike(int[] one, int oneKept, int[] two, int twoKept) {
            if (oneKept != twoKept || oneKept > one.length || twoKept > two.length) {
                return false;
            }
            for (int i = 0; i < oneKept; i++) {
                if (one[i] != two[i]) {
                    return false;
                }
            }
            return true;
        }
    }

    /** Binary fractions of 64 bits, told by their bits and reckoned in whole numbers alone. */
    private static final class Fraction {
        /** What an empty POINT has for x and y. */
        static final long EMPTY = 0x7FF8000000000000L;
        /** Stands for every whole number from 2 to the power 52 on. */
        private static final long FAR = 1L << 62;

        private static final long SIGN = 1L << 63;
        private static final long INFINITE = 0x7FF0000000000000L;
        private static final long F_BITS = (1L << 52) - 1;
        private static final long LEADING_BIT = 1L << 52;
        /** The E of whole numbers that fill 53 bits. */
        private static final int E_WHOLE = 1075;

        private Fraction() {
        }

        static boolean isFinite(long bits) {
            return (bits & ~SIGN) < INFINITE;
        }

        static boolean isNoNumber(long bits) {
            return (bits & ~SIGN) > INFINITE;
        }

        /** A finite fraction times 1 to 1000, rounded to a whole number. */
        static long rounded(long bits, int unit) {
            int halvings = E_WHOLE - (int) ((bits & ~SIGN) >>> 52);
            long whole;
            if (halvings <= 0) {
                whole = FAR;
            } else if (halvings > 63) {
                // The product is below 2 to the power 63, so less than a half is left of it.
                whole = 0;
            } else {
                long product = (LEADING_BIT | bits & F_BITS) * unit;
                whole = product >>> halvings;
                long rest = product - (whole << halvings);
                if (roundsUp(whole, rest, 1L << halvings - 1)) {
                    whole++;
                }
            }
            return bits < 0 ? -whole : whole;
        }

        private static boolean roundsUp(long whole, long rest, long half) {
            return rest > half || rest == half && (whole & 1) == 1;
        }

        /** The bits of the fraction that is nearest to n / unit. */
        static long nearest(int n, int unit) {
            if (n == 0 || unit <= 0) {
                return 0;
            }
            long least = LEADING_BIT * unit;
            long scaled = Math.abs((long) n);
            int doublings = 0;
            for (; doublings < 63 && scaled < least; doublings++) {
                scaled <<= 1;
            }
            long whole = scaled / unit;
            long rest = scaled % unit;
            if (roundsUp(whole, 2 * rest, unit)) {
                whole++;
            }
            // A whole that has grown to 54 bits carries into E, as it should.
            long bits = ((long) (E_WHOLE - doublings) << 52) + (whole - LEADING_BIT);
            return n < 0 ? bits | SIGN : bits;
        }
    }

    /** Takes a shape from the tape, and keeps what was wrong first. */
    private static final class Reader {
        private static final int BAD_ORDER = 1;
        private static final int BAD_KIND = 2;
        private static final int BAD_END = 3;
        private static final int BAD_NUMBER = 4;
        private static final int BAD_RANGE = 5;
        private static final int BAD_DEEP = 6;
        private static final int BAD_FULL = 7;
        private static final int BAD_BEHIND = 8;
        private static final int BAD_MORE = 9;

        /** Items that are no shapes; the others are due by their kinds. */
        private static final int RING = 8;
        private static final int COORDINATE = 9;

        private static final int MOST_COLLECTIONS = 50;
        /** The tape itself, the collections, and in these a MULTIPOLYGON, a POLYGON and a ring. */
        private static final int MOST_WAITING = MOST_COLLECTIONS + 4;
        /** Every item takes the room of a plan number or of a point. */
        private static final int MOST_ITEMS = 2 * MOST_KEPT;
        private static final long FARTHEST = 1000000000;

        private final int unit;
        // What waits for items, the outermost first: how many are still to come, and
        // which. A row in place of recursion keeps the open calls few.
        private final long[] itemsLeft = new long[MOST_WAITING];
        private final int[] itemsDue = new int[MOST_WAITING];
        private int waiting;
        private Row from;
        private Shape into;
        private int at;
        private boolean lowFirst;
        private int wrong;
        private int place;

        Reader(int unit) {
            this.unit = unit;
        }

        int wrong() {
            return wrong;
        }

        int place() {
            return place;
        }

        /** Whether all bytes are one shape, which is kept then; else none is. */
        boolean takeAll(Row row, Shape shape) {
            begin(row, shape);
            boolean fine = true;
            for (int items = 0; items < MOST_ITEMS && fine && waiting > 0; items++) {
                fine = takeItem();
                leaveFinished();
            }
            if (fine && at < from.size()) {
                fine = fail(BAD_BEHIND, at);
            }
            if (!fine) {
                into.clear();
            }
            return fine;
        }

        private void begin(Row row, Shape shape) {
            from = row;
            into = shape;
            into.clear();
            at = 0;
            wrong = 0;
            place = 0;
            waiting = 0;
            waitFor(1, Kind.ANY);
        }

        private void waitFor(long items, int due) {
            if (waiting < MOST_WAITING) {
                itemsLeft[waiting] = items;
                itemsDue[waiting] = due;
                waiting++;
            }
        }

        // What waits for its last item is left only when that item is finished too, so
        // that the row tells how deep a shape lies.
        private void leaveFinished() {
            while (waiting > 0 && itemsLeft[waiting - 1] == 0) {
                waiting--;
            }
        }

        private boolean takeItem() {
            int innermost = waiting - 1;
            itemsLeft[innermost]--;
            int due = itemsDue[innermost];
            if (due == COORDINATE) {
                return takeCoordinate();
            }
            return due == RING ? takeRing() : takeShape(due);
        }

        private boolean fail(int what, int where) {
            wrong = what;
            place = where;
            return false;
        }

        private boolean isThere(int length) {
            return length <= from.size() - at || fail(BAD_END, at);
        }

        private long takeNumber(int length) {
            long number = from.numberAt(at, length, lowFirst);
            at += length;
            return number;
        }

        private boolean takeShape(int due) {
            if (!takeOrder() || !isThere(4)) {
                return false;
            }
            int typeAt = at;
            int type = (int) takeNumber(4);
            int kind = Kind.ofType(type);
            if (kind == Kind.ANY || due != Kind.ANY && due != kind) {
                return fail(BAD_KIND, typeAt);
            }
            if (Kind.hasMoreCoordinates(type)) {
                return fail(BAD_MORE, typeAt);
            }
            if (kind == Kind.COLLECTION && collectionsAround() >= MOST_COLLECTIONS) {
                return fail(BAD_DEEP, typeAt);
            }
            if (Kind.hasMark(type) && !passMark()) {
                return false;
            }
            if (!into.hasRoomForPlan(2)) {
                return fail(BAD_FULL, at);
            }
            into.addNumber(kind);
            return kind == Kind.POINT ? takePoint() : takeCount(kind);
        }

        // Where a collection may stand, only collections and the tape itself wait.
        private int collectionsAround() {
            return waiting - 1;
        }

        private boolean takeOrder() {
            if (!isThere(1)) {
                return false;
            }
            int order = from.valueAt(at);
            if (order > 1) {
                return fail(BAD_ORDER, at);
            }
            lowFirst = order == 1;
            at++;
            return true;
        }

        private boolean passMark() {
            if (!isThere(4)) {
                return false;
            }
            at += 4;
            return true;
        }

        private boolean takePoint() {
            if (isEmptyPoint()) {
                at += 16;
                into.addNumber(0);
            } else {
                into.addNumber(1);
                waitFor(1, COORDINATE);
            }
            return true;
        }

        private boolean isEmptyPoint() {
            return from.size() - at >= 16
                && Fraction.isNoNumber(from.numberAt(at, 8, lowFirst))
                && Fraction.isNoNumber(from.numberAt(at + 8, 8, lowFirst));
        }

        // A count that is too large for a plan number is never seen in one: the bytes
        // or the room end before so many items.
        private boolean takeCount(int kind) {
            if (!isThere(4)) {
                return false;
            }
            long items = takeNumber(4);
            into.addNumber((int) items);
            waitFor(items, itemsOf(kind));
            return true;
        }

        private static int itemsOf(int kind) {
            switch (kind) {
                case Kind.LINESTRING:
                    return COORDINATE;
                case Kind.POLYGON:
                    return RING;
                case Kind.COLLECTION:
                    return Kind.ANY;
                default:
                    return kind - 3;
            }
        }

        private boolean takeRing() {
            if (!into.hasRoomForPlan(1)) {
                return fail(BAD_FULL, at);
            }
            if (!isThere(4)) {
                return false;
            }
            int countAt = at;
            long points = takeNumber(4);
            if (points == 0) {
                return fail(BAD_NUMBER, countAt);
            }
            into.addNumber((int) points);
            waitFor(points, COORDINATE);
            return true;
        }

        private boolean takeCoordinate() {
            if (!into.hasRoomForPoint()) {
                return fail(BAD_FULL, at);
            }
            return takeValue() && takeValue();
        }

        private boolean takeValue() {
            if (!isThere(8)) {
                return false;
            }
            int valueAt = at;
            long bits = takeNumber(8);
            if (!Fraction.isFinite(bits)) {
                return fail(BAD_NUMBER, valueAt);
            }
            long value = Fraction.rounded(bits, unit);
            if (value < -FARTHEST || value > FARTHEST) {
                return fail(BAD_RANGE, valueAt);
            }
            into.addValue((int) value);
            return true;
        }
    }

    /** Puts a shape into a row of bytes. */
    private static final class Writer {
        private final int unit;
        private Shape shape;
        private Row row;
        private int order;
        private int planAt;
        private int pointAt;

        Writer(int unit) {
            this.unit = unit;
        }

        // The parts of a shape follow it in the plan as they do in the bytes, so the
        // plan is walked from its start to its end and no part needs its whole.
        void putAll(Shape written, Row onto, int byteOrder) {
            shape = written;
            row = onto;
            order = byteOrder;
            planAt = 0;
            pointAt = 0;
            row.cut(0);
            int planSize = shape.planSize();
            for (int shapes = 0; shapes < planSize && planAt < planSize; shapes++) {
                putShape();
            }
        }

        private void putShape() {
            int kind = nextOfPlan();
            int parts = nextOfPlan();
            row.append(order, 1, false);
            put(kind, 4);
            if (kind == Kind.POINT) {
                putPoint(parts);
                return;
            }
            put(parts, 4);
            if (kind == Kind.LINESTRING) {
                putCoordinates(parts);
            } else if (kind == Kind.POLYGON) {
                putRings(parts);
            }
        }

        private int nextOfPlan() {
            int number = shape.planAt(planAt);
            planAt++;
            return number;
        }

        private void put(long number, int length) {
            row.append(number, length, order == 1);
        }

        private void putPoint(int points) {
            if (points == 0) {
                put(Fraction.EMPTY, 8);
                put(Fraction.EMPTY, 8);
            } else {
                putCoordinates(1);
            }
        }

        private void putRings(int rings) {
            for (int i = 0; i < rings; i++) {
                int points = nextOfPlan();
                put(points, 4);
                putCoordinates(points);
            }
        }

        private void putCoordinates(int points) {
            for (int i = 0; i < points; i++) {
                put(Fraction.nearest(shape.valueOfPoint(pointAt, 0), unit), 8);
                put(Fraction.nearest(shape.valueOfPoint(pointAt, 1), unit), 8);
                pointAt++;
            }
        }
    }
}
