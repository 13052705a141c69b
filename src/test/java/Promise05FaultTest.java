/** fault: what was wrong first, and its place. */
public final class Promise05FaultTest {
    public static void main(String[] args) {
        latestBytes();
        ends();
        orders();
        types();
        deep();
        fullPlan();
        fullPoints();
        numbers();
        ranges();
        behind();
        Check.done();
    }

    private static ByteShapes roomy() {
        return new ByteShapes(0, 100, 200);
    }

    private static void latestBytes() {
        ByteShapes shapes = roomy();
        Check.equal("before", 0, shapes.fault(0));
        Check.equal("before", 0, shapes.fault(1));
        Check.fault("bad", shapes, Wkb.shape(0, 1).xy(1, 2).raw(0), 8, 21);
        Wkb.shape(0, 1).xy(1, 2).feedTo(shapes);
        Check.equal("bytes fed are not read yet", 8, shapes.fault(0));
        Check.noSuch("read(4)", () -> shapes.read(4));
        Check.equal("nor are they by a refused call", 21, shapes.fault(1));
        shapes.read(1);
        Check.equal("good bytes", 0, shapes.fault(0));
        Check.equal("good bytes", 0, shapes.fault(1));
        for (int what : new int[] {-1, 2, Integer.MIN_VALUE, Integer.MAX_VALUE}) {
            Check.noSuch("fault(" + what + ")", () -> shapes.fault(what));
        }
    }

    /** Every cut of a whole shape ends in the piece that begins at or before it. */
    private static void ends() {
        Wkb whole = Wkb.shape(0, 0x20000007L).number(9).number(3)
            .part(1, 1).xy(1, 2)
            .part(0, 2).number(1).xy(3, 4)
            .part(1, 3).number(1).number(1).xy(5, 6);
        int[] pieces = {0, 1, 5, 9, 13, 14, 18, 26, 34, 35, 39, 43, 51, 59, 60, 64, 68, 72, 80, 88};
        ByteShapes shapes = roomy();
        for (int i = 0; i + 1 < pieces.length; i++) {
            for (int cut = pieces[i]; cut < pieces[i + 1]; cut++) {
                Check.fault("cut at " + cut, roomy(), whole.cut(cut), 3, pieces[i]);
            }
        }
        Check.reads("whole", shapes, 0, whole.cut(88), 7, 3, 1, 1, 2, 1, 3, 1, 1);
        Check.fault("huge counts", shapes, Wkb.shape(1, 2).number(0xFFFFFFFFL), 3, 9);
        Check.fault("huge counts", shapes, Wkb.shape(0, 3).number(0x80000000L), 3, 9);
        Check.fault("huge counts", shapes, Wkb.shape(0, 7).number(0xFFFFFFFFL).part(0, 7).number(0), 3, 18);
        Check.fault("huge counts", shapes, Wkb.shape(0, 3).number(1).number(0xFFFFFFFFL).xy(1, 2), 3, 29);
    }

    private static void orders() {
        for (int order : new int[] {2, 3, 127, 128, 255}) {
            Check.fault("order " + order, roomy(), Wkb.bytes(order), 1, 0);
            Check.fault("order " + order, roomy(), Wkb.shape(0, 4).number(2).part(0, 1).xy(1, 2).raw(order), 1, 30);
        }
    }

    private static void types() {
        for (int order = 0; order <= 1; order++) {
            for (long type : new long[] {0, 8, 999, 1000, 1008, 2000, 2008, 3000, 3008, 4001, 5001, 0x10000001L,
                0xE0000000L, 0xFFFFFFFFL, 0x80000008L, 0x01000000L}) {
                Check.fault("type " + type, roomy(), Wkb.shape(order, type), 2, 1);
            }
            for (int kind = 1; kind <= 7; kind++) {
                for (long more : new long[] {1000, 2000, 3000, 0x80000000L, 0x40000000L, 0xC0000000L, 0xE0000000L,
                    0xA0000000L + 1000, 0x20000000L + 3000}) {
                    Check.fault("type " + kind + " and " + more, roomy(), Wkb.shape(order, kind + more), 9, 1);
                }
            }
        }
        for (int whole = 4; whole <= 6; whole++) {
            for (int kind = 1; kind <= 7; kind++) {
                Wkb bytes = Wkb.shape(0, whole).number(1);
                if (kind == whole - 3) {
                    Check.fault("more coordinates in a part", roomy(), bytes.part(1, kind + 1000), 9, 10);
                } else {
                    Check.fault(kind + " in " + whole, roomy(), bytes.part(1, kind + 1000), 2, 10);
                }
            }
        }
    }

    private static Wkb nested(int collections, long innermost) {
        Wkb bytes = Wkb.shape(0, 7).number(1);
        for (int i = 1; i < collections; i++) {
            bytes.part(i % 2, 7).number(1);
        }
        return bytes.part(0, innermost);
    }

    private static void deep() {
        Check.fault("one in fifty", roomy(), nested(50, 7), 6, 451);
        Check.fault("one in fifty, with a mark", roomy(), nested(50, 0x20000007L), 6, 451);
        Check.fault("more comes before", roomy(), nested(50, 1007), 9, 451);
        Check.fault("one in forty-nine", roomy(), nested(49, 7), 3, 446);
        Check.fault("another kind in fifty", roomy(), nested(50, 6), 3, 455);
        Check.fault("deep comes before full", new ByteShapes(0, 1, 100), nested(50, 7), 6, 451);
        Check.fault("full comes before the fiftieth", new ByteShapes(0, 1, 98), nested(49, 7), 7, 446);
        Wkb last = Wkb.shape(0, 7).number(2).part(0, 7).number(0);
        for (int i = 1; i < 50; i++) {
            last.part(0, 7).number(1);
        }
        Check.fault("behind a sister", roomy(), last.part(0, 7), 6, 9 + 9 + 49 * 9 + 1);
    }

    private static void fullPlan() {
        ByteShapes shapes = new ByteShapes(0, 9, 5);
        Check.fault("no room for two", shapes,
            Wkb.shape(0, 7).number(2).part(0, 2).number(0).part(0, 2).number(0), 7, 23);
        Check.fault("no room behind the mark", shapes,
            Wkb.shape(0, 7).number(2).part(0, 2).number(0).part(0, 0x20000002L).number(5).number(0), 7, 27);
        Check.fault("no mark there", shapes,
            Wkb.shape(0, 7).number(2).part(0, 2).number(0).part(0, 0x20000002L), 3, 23);
        Check.fault("full comes before the end", shapes,
            Wkb.shape(0, 7).number(2).part(0, 2).number(0).part(0, 1), 7, 23);
        Check.fault("an empty POINT needs a plan too", shapes,
            Wkb.shape(0, 4).number(2).part(0, 1).xy(1, 2).part(0, 1).bits(-1L, -1L), 7, 35);
        Wkb rings = Wkb.shape(0, 3).number(4).number(1).xy(1, 2).number(1).xy(1, 2).number(1).xy(1, 2);
        Check.fault("no room for a ring, nor its bytes", shapes, rings, 7, 69);
        Check.fault("no room for a ring", shapes, rings.number(0), 7, 69);
    }

    private static void fullPoints() {
        ByteShapes shapes = new ByteShapes(0, 2, 20);
        Check.fault("LINESTRING", shapes, Wkb.shape(0, 2).number(3).xy(1, 2, 3, 4, 5, 6), 7, 41);
        Check.fault("before the end", shapes, Wkb.shape(0, 2).number(3).xy(1, 2, 3, 4), 7, 41);
        Check.fault("before a wrong number", shapes,
            Wkb.shape(0, 2).number(3).xy(1, 2, 3, 4).bits(Wkb.INFINITE, Wkb.INFINITE), 7, 41);
        Check.fault("ring", shapes, Wkb.shape(0, 3).number(1).number(3).xy(1, 2, 3, 4, 5, 6), 7, 45);
        Check.fault("no empty POINTs in lines", shapes,
            Wkb.shape(0, 2).number(3).xy(1, 2, 3, 4).bits(Wkb.NO_NUMBER, Wkb.NO_NUMBER), 7, 41);
        Wkb two = Wkb.shape(0, 4).number(3).part(0, 1).xy(1, 2).part(0, 1).xy(3, 4).part(0, 1);
        Check.fault("POINT whose bytes end", shapes, two, 7, 56);
        two.bits(Wkb.NO_NUMBER);
        Check.fault("POINT whose y is not there", shapes, two, 7, 56);
        two.bits(0);
        Check.fault("POINT with y", shapes, two, 7, 56);
    }

    private static void numbers() {
        long none = Wkb.NO_NUMBER;
        for (long bad : new long[] {Wkb.INFINITE, 0xFFF0000000000000L}) {
            Check.fault("infinite x", roomy(), Wkb.shape(0, 1).bits(bad, 0), 4, 5);
            Check.fault("infinite y", roomy(), Wkb.shape(1, 1).bits(0, bad), 4, 13);
            Check.fault("both infinite", roomy(), Wkb.shape(1, 1).bits(bad, bad), 4, 5);
            Check.fault("infinite x, no y", roomy(), Wkb.shape(1, 1).bits(bad, none), 4, 5);
            Check.fault("no x, infinite y", roomy(), Wkb.shape(1, 1).bits(none, bad), 4, 5);
        }
        Check.fault("no x", roomy(), Wkb.shape(0, 1).bits(none, 0), 4, 5);
        Check.fault("no y", roomy(), Wkb.shape(0, 1).bits(0, none), 4, 13);
        Check.fault("no x, and y ends", roomy(), Wkb.shape(0, 1).bits(none, none).cut(20), 4, 5);
        Check.fault("no x and y in a line", roomy(), Wkb.shape(0, 2).number(1).bits(none, none), 4, 9);
        Check.fault("a ring of none", roomy(), Wkb.shape(0, 3).number(1).number(0), 4, 9);
        Check.fault("a later ring of none", roomy(),
            Wkb.shape(0, 3).number(2).number(1).xy(1, 2).number(0), 4, 29);
    }

    private static void ranges() {
        for (double x : new double[] {1000000001, -1000000001, 1e15, 0x1p52, 0x1p53, -0x1p62, 0x1p63, 0x1p64, 1e300,
            -Double.MAX_VALUE}) {
            Check.fault("x " + x, roomy(), Wkb.shape(0, 1).xy(x, 0), 5, 5);
            Check.fault("y " + x, roomy(), Wkb.shape(1, 1).xy(0, x), 5, 13);
            Check.fault("x " + x + ", y ends", roomy(), Wkb.shape(1, 1).xy(x, 0).cut(20), 5, 5);
            Check.fault("x " + x + ", no y", roomy(), Wkb.shape(1, 1).xy(x, Double.NaN), 5, 5);
            Check.fault("line's x " + x, new ByteShapes(3, 9, 9), Wkb.shape(1, 2).number(2).xy(0, 0, x, 0), 5, 25);
        }
        Check.fault("3 digits", new ByteShapes(3, 9, 9), Wkb.shape(0, 1).xy(1000000.001, 0), 5, 5);
        Check.fault("2 digits", new ByteShapes(2, 9, 9), Wkb.shape(0, 1).xy(-10000000.01, 0), 5, 5);
        Check.fault("1 digit", new ByteShapes(1, 9, 9), Wkb.shape(0, 1).xy(100000000.1, 0), 5, 5);
    }

    private static void behind() {
        Check.fault("POINT", roomy(), Wkb.shape(0, 1).xy(1, 2).raw(0), 8, 21);
        Check.fault("none", roomy(), Wkb.shape(1, 7).number(0).part(0, 1).xy(1, 2), 8, 9);
        Check.fault("parts", roomy(), Wkb.shape(1, 4).number(1).part(0, 1).xy(1, 2).raw(9), 8, 30);
    }
}
