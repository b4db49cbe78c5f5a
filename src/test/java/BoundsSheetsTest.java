import java.util.function.Supplier;

/** The bounds of promises 31 to 36, and those of SHEETS in "Terms". */
public final class BoundsSheetsTest {
    private static final int MISSING_ONE = 3;
    private static final Due d = new Due();
    private static final Bounds b = new Bounds(d);
    private static final Supplier<TortoiseShelves> BUSY = Scene::busy;

    public static void main(String[] args) {
        sheet();
        sheetOrder();
        sheetLengths();
        write();
        widths();
        copy();
        copyBounds();
        copyOrder();
        copyInItself();
        lays();
        laysBounds();
        book();
        bookLengths();
        read();
        readNumbers();
        d.end();
    }

    private static void sheet() {
        b.range("sheet(_, 8, 2)", BUSY, (x, v) -> x.sheet(v, 8, 2), 0, 2, 3, 2);
        b.range("sheet(_, 0, 2)", BUSY, (x, v) -> x.sheet(v, 0, 2), 0, 0, 3, 0);
        for (int bits : new int[] {0, 8, 16, 64}) {
            String name = "sheet(1, " + bits + ", ";
            b.taken(name + "0)", BUSY, x -> x.sheet(1, bits, 0), 0);
            b.taken(name + "1)", BUSY, x -> x.sheet(1, bits, 1), bits == 0 ? 0 : 1);
            b.taken(name + "39)", BUSY, x -> x.sheet(1, bits, 39), bits == 0 ? 0 : 39);
            b.taken(name + "40)", BUSY, x -> x.sheet(1, bits, 40), bits == 0 ? 0 : 40);
            for (int n : new int[] {-1, -2, -40, -41, Integer.MIN_VALUE}) {
                b.refused(name + n + ")", BUSY, x -> x.sheet(1, bits, n), Due.SIZE);
            }
            for (int n : new int[] {41, 42, 64, 256, 65536, Integer.MAX_VALUE}) {
                b.refused(name + n + ")", BUSY, x -> x.sheet(1, bits, n), Due.BEYOND);
            }
        }
        for (int bits : new int[] {-64, -16, -8, -1, 1, 4, 7, 9, 15, 17, 24, 32, 63, 65, 128, 256, 264, Integer.MIN_VALUE,
            Integer.MIN_VALUE + 8, Integer.MAX_VALUE}) {
            b.refused("sheet(1, " + bits + ", 2)", BUSY, x -> x.sheet(1, bits, 2), Due.BEYOND);
        }
    }

    private static void sheetOrder() {
        for (int s : new int[] {-1, 4}) {
            b.refused("no such sheet, other bits, below 0: " + s, BUSY, x -> x.sheet(s, 7, -1), Due.BEYOND);
            b.refused("no such sheet, below 0: " + s, BUSY, x -> x.sheet(s, 8, -1), Due.BEYOND);
            b.refused("no such sheet, bits 0, below 0: " + s, BUSY, x -> x.sheet(s, 0, -1), Due.BEYOND);
        }
        b.refused("other bits, below 0", BUSY, x -> x.sheet(0, 7, -1), Due.BEYOND);
        b.refused("other bits, above 40", BUSY, x -> x.sheet(0, 7, 41), Due.BEYOND);
        b.refused("a missing one, bits 0, below 0", BUSY, x -> x.sheet(MISSING_ONE, 0, -1), Due.SIZE);
        b.refused("a missing one, bits 0, above 40", BUSY, x -> x.sheet(MISSING_ONE, 0, 41), Due.BEYOND);
        b.quiet("a missing one stays so", BUSY, x -> x.sheet(MISSING_ONE, 0, 40), 0);
    }

    /** It has just as many numbers, all 0, whatever it had before. */
    private static void sheetLengths() {
        for (int bits : new int[] {8, 16, 64}) {
            for (int n : new int[] {0, 1, 39, 40}) {
                TortoiseShelves x = new TortoiseShelves();
                x.sheet(2, 64, 40);
                for (int i = 0; i < 40; i++) {
                    x.write(2, i, -1);
                }
                d.due("sheet(2, " + bits + ", " + n + ")", x.sheet(2, bits, n), n);
                for (int i = 0; i < n; i++) {
                    d.due("number " + i + " of " + n, x.write(2, i, 1), 0);
                }
                d.due("no number " + n, x.write(2, n, 1), Due.BEYOND);
                x.sheet(2, bits, 40);
                d.due("0 behind them, too", x.write(2, 39, 1), 0);
                d.due("0 in the first one again", x.write(2, 0, 1), 0);
            }
        }
        TortoiseShelves x = new TortoiseShelves();
        for (int s = 0; s < 4; s++) {
            x.sheet(s, 8, 40);
            x.write(s, 39, s + 1);
        }
        d.due("one is missing", x.sheet(2, 0, 0), 0);
        d.due("it is", x.write(2, 0, 0), Due.MISSING);
        for (int s : new int[] {0, 1, 3}) {
            d.due("another one stays: " + s, x.write(s, 39, 0), s + 1);
        }
        d.due("an empty one isn't missing", x.sheet(2, 16, 0), 0);
        d.due("it has no numbers", x.write(2, 0, 0), Due.BEYOND);
    }

    private static void write() {
        b.range("write(_, 0, 7)", BUSY, (x, v) -> x.write(v, 0, 7), 0, 1, 3, Due.MISSING);
        b.range("write(0, _, 7)", BUSY, (x, v) -> x.write(0, v, 7), 0, 1, 2, 3);
        b.range("write(1, _, 7)", BUSY, (x, v) -> x.write(1, v, 7), 0, 100, 3, 4000);
        b.range("write(2, _, 7)", BUSY, (x, v) -> x.write(2, v, 7), 0, 1L << 40, 1, -5);
        for (int i : new int[] {-1, 0, 40, Integer.MIN_VALUE, Integer.MAX_VALUE}) {
            b.refused("a missing one, number " + i, BUSY, x -> x.write(MISSING_ONE, i, 7), Due.MISSING);
            b.refused("no such sheet, number " + i, BUSY, x -> x.write(4, i, 7), Due.BEYOND);
            b.refused("no such sheet below, number " + i, BUSY, x -> x.write(-1, i, 7), Due.BEYOND);
        }
        Supplier<TortoiseShelves> forty = () -> {
            TortoiseShelves x = new TortoiseShelves();
            x.sheet(3, 64, 40);
            x.write(3, 39, 9);
            return x;
        };
        b.range("write(3, _, 1) of forty", forty, (x, v) -> x.write(3, v, 1), 0, 0, 39, 9);
        Supplier<TortoiseShelves> empty = () -> {
            TortoiseShelves x = new TortoiseShelves();
            x.sheet(0, 8, 0);
            return x;
        };
        b.refused("write(0, 0, 1) of none", empty, x -> x.write(0, 0, 1), Due.BEYOND);
        b.refused("write(0, -1, 1) of none", empty, x -> x.write(0, -1, 1), Due.BEYOND);
    }

    private static void held(int bits, long v, long want) {
        TortoiseShelves x = new TortoiseShelves();
        x.sheet(0, bits, 3);
        d.due(bits + " bits, " + v + ": what it was", x.write(0, 1, v), 0);
        d.due(bits + " bits, " + v + ": what it is", x.write(0, 1, 0), want);
        d.due(bits + " bits, " + v + ": the one ahead", x.write(0, 0, 0), 0);
        d.due(bits + " bits, " + v + ": the one behind", x.write(0, 2, 0), 0);
        d.due(bits + " bits, " + v + ": no finding", x.status(-1), 0);
    }

    /** The lowest bits alone, at the ends of each width; a number like a finding is none. */
    private static void widths() {
        long[][] of8 = {{127, 127}, {128, -128}, {255, -1}, {256, 0}, {257, 1}, {-128, -128}, {-129, 127}, {-256, 0},
            {-257, -1}, {Long.MAX_VALUE, -1}, {Long.MIN_VALUE, 0}, {Due.BEYOND, (byte) Due.BEYOND}};
        long[][] of16 = {{128, 128}, {32767, 32767}, {32768, -32768}, {65535, -1}, {65536, 0}, {65537, 1}, {-32768, -32768},
            {-32769, 32767}, {-65537, -1}, {Long.MAX_VALUE, -1}, {Long.MIN_VALUE, 0}, {Due.SIZE, (short) Due.SIZE}};
        long[] of64 = {0, 1, -1, 32768, 65536, 1L << 31, 1L << 32, -(1L << 31) - 1, Long.MAX_VALUE, Long.MIN_VALUE,
            Due.BEYOND, Due.MISSING, Due.SIZE};
        for (long[] row : of8) {
            held(8, row[0], row[1]);
        }
        for (long[] row : of16) {
            held(16, row[0], row[1]);
        }
        for (long v : of64) {
            held(64, v, v);
        }
    }

    private static void copy() {
        b.range("copy(_, 0, 0, 0, 1)", BUSY, (x, v) -> x.copy(v, 0, 0, 0, 1), 0, 1, 3, Due.MISSING);
        b.range("copy(0, 0, _, 0, 1)", BUSY, (x, v) -> x.copy(0, 0, v, 0, 1), 0, 1, 3, Due.MISSING);
        b.range("copy(1, _, 1, 0, 1)", BUSY, (x, v) -> x.copy(1, v, 1, 0, 1), 0, 1, 3, 1);
        b.range("copy(1, 0, 1, _, 1)", BUSY, (x, v) -> x.copy(1, 0, 1, v, 1), 0, 1, 3, 1);
        b.range("copy(1, 0, 1, 0, _)", BUSY, (x, v) -> x.copy(1, 0, 1, 0, v), 0, 0, 4, 4);
        b.range("copy(1, _, 1, 0, 0)", BUSY, (x, v) -> x.copy(1, v, 1, 0, 0), 0, 0, 4, 0);
        b.range("copy(1, 0, 1, _, 0)", BUSY, (x, v) -> x.copy(1, 0, 1, v, 0), 0, 0, 4, 0);
        b.range("copy(1, 2, 1, 0, _)", BUSY, (x, v) -> x.copy(1, 2, 1, 0, v), 0, 0, 2, 2);
        b.range("copy(1, 0, 1, 2, _)", BUSY, (x, v) -> x.copy(1, 0, 1, 2, v), 0, 0, 2, 2);
        b.quiet("none is copied", BUSY, x -> x.copy(1, 4, 1, 4, 0), 0);
        b.quiet("all to where they are", BUSY, x -> x.copy(2, 0, 2, 0, 2), 2);
    }

    /** A longer sheet and a shorter one of as many bits, up to forty numbers. */
    private static TortoiseShelves pair() {
        TortoiseShelves x = new TortoiseShelves();
        x.sheet(0, 16, 40);
        x.sheet(1, 16, 39);
        for (int i = 0; i < 40; i++) {
            x.write(0, i, 1000 + i);
        }
        return x;
    }

    private static void copyBounds() {
        Supplier<TortoiseShelves> two = BoundsSheetsTest::pair;
        b.taken("39 to the shorter one", two, x -> x.copy(0, 0, 1, 0, 39), 39);
        b.taken("39 from 1 on", two, x -> x.copy(0, 1, 1, 0, 39), 39);
        b.refused("39 from 2 on", two, x -> x.copy(0, 2, 1, 0, 39), Due.BEYOND);
        b.refused("40 to the shorter one", two, x -> x.copy(0, 0, 1, 0, 40), Due.BEYOND);
        b.refused("39 to 1 on", two, x -> x.copy(0, 0, 1, 1, 39), Due.BEYOND);
        b.taken("38 to 1 on", two, x -> x.copy(0, 0, 1, 1, 38), 38);
        b.taken("39 to the longer one", two, x -> x.copy(1, 0, 0, 1, 39), 39);
        b.refused("40 of the shorter one", two, x -> x.copy(1, 0, 0, 0, 40), Due.BEYOND);
        b.taken("the last to the last", two, x -> x.copy(0, 39, 1, 38, 1), 1);
        b.refused("behind the last", two, x -> x.copy(0, 40, 1, 38, 1), Due.BEYOND);
        b.refused("to behind the last", two, x -> x.copy(0, 39, 1, 39, 1), Due.BEYOND);
        int max = Integer.MAX_VALUE;
        int min = Integer.MIN_VALUE;
        int[][] wraps = {{1, 0, max}, {0, 1, max}, {max, 0, 1}, {0, max, 1}, {max, max, 2}, {max, max, max}, {max, 0, max},
            {min, 0, 1}, {0, min, 1}, {0, 0, min}, {min, min, min}, {max, 0, min}, {-1, 0, 2}, {0, -1, 2}, {5, 0, -1},
            {0, 5, -1}, {40, 0, -1}, {-1, -1, 0}, {-1, 0, 0}, {0, -1, 0}};
        for (int[] w : wraps) {
            b.refused("copy(0, " + w[0] + ", 1, " + w[1] + ", " + w[2] + ")", two, x -> x.copy(0, w[0], 1, w[1], w[2]),
                Due.BEYOND);
        }
        TortoiseShelves x = pair();
        x.copy(0, 1, 1, 0, 39);
        for (int i = 0; i < 39; i++) {
            d.due("copied number " + i, x.write(1, i, 0), 1001 + i);
        }
    }

    private static void copyOrder() {
        b.refused("no such target, a missing source", BUSY, x -> x.copy(MISSING_ONE, 0, 4, 0, 1), Due.BEYOND);
        b.refused("no such source, a missing target", BUSY, x -> x.copy(-1, 0, MISSING_ONE, 0, 1), Due.BEYOND);
        b.refused("no such target, below 0", BUSY, x -> x.copy(0, -1, -1, -1, -1), Due.BEYOND);
        b.refused("a missing target, other places", BUSY, x -> x.copy(0, -1, MISSING_ONE, -1, -1), Due.MISSING);
        b.refused("a missing source, other places", BUSY, x -> x.copy(MISSING_ONE, -1, 0, -1, -1), Due.MISSING);
        b.refused("a missing one to itself", BUSY, x -> x.copy(MISSING_ONE, 0, MISSING_ONE, 0, 0), Due.MISSING);
        int[][] others = {{0, 1}, {1, 0}, {0, 2}, {2, 0}, {1, 2}, {2, 1}};
        for (int[] o : others) {
            String name = "of " + o[0] + " to " + o[1];
            b.refused(name + ", other bits", BUSY, x -> x.copy(o[0], 0, o[1], 0, 1), Due.KIND);
            b.refused(name + ", other bits, none", BUSY, x -> x.copy(o[0], 0, o[1], 0, 0), Due.KIND);
            b.refused(name + ", other bits, other places", BUSY, x -> x.copy(o[0], -1, o[1], 41, -1), Due.KIND);
            b.refused(name + ", other bits, too many", BUSY, x -> x.copy(o[0], 0, o[1], 0, 41), Due.KIND);
        }
    }

    /** As they all were: forty numbers moved by one, either way. */
    private static void copyInItself() {
        TortoiseShelves x = pair();
        d.due("a step onwards", x.copy(0, 0, 0, 1, 39), 39);
        for (int i = 0; i < 40; i++) {
            d.due("onwards, number " + i, x.write(0, i, 1000 + i), i == 0 ? 1000 : 999 + i);
        }
        d.due("a step back", x.copy(0, 1, 0, 0, 39), 39);
        for (int i = 0; i < 40; i++) {
            d.due("back, number " + i, x.write(0, i, 0), i == 39 ? 1039 : 1001 + i);
        }
    }

    private static void lays() {
        b.range("lays(_)", BUSY, (x, v) -> x.lays(v), 0, 2, 3, Due.MISSING);
        b.refused("lays: a missing one", BUSY, x -> x.lays(MISSING_ONE), Due.MISSING);
        b.quiet("lays: numbers that are no sets", BUSY, x -> x.lays(2), 0);
        TortoiseShelves x = Scene.busy();
        d.due("lays(1)", x.lays(1), 4);
        int[] books = {100, 200, 300, 4000, Due.bits(11), Due.bits(10)};
        for (int i = 0; i < books.length; i++) {
            d.due("books of " + i, x.of(i, 2), books[i]);
        }
    }

    private static void lays(int bits, long v, int came, int books) {
        TortoiseShelves x = new TortoiseShelves();
        x.tortoise(0, 0, 77);
        Scene.sheet(x, 0, bits, v);
        d.due(bits + " bits, " + v + ": came", x.lays(0), came);
        d.due(bits + " bits, " + v + ": books", x.of(0, 2), books);
        d.due(bits + " bits, " + v + ": no finding", x.status(-1), 0);
    }

    private static void laysBounds() {
        for (int bits : new int[] {8, 16, 64}) {
            lays(bits, 0, 1, 0);
            lays(bits, 1, 1, 1);
            lays(bits, 127, 1, 127);
            lays(bits, -1, 0, 77);
        }
        for (int bits : new int[] {16, 64}) {
            lays(bits, 4094, 1, 4094);
            lays(bits, 4095, 1, 4095);
            lays(bits, 4096, 0, 77);
            lays(bits, 4097, 0, 77);
            lays(bits, -4096, 0, 77);
        }
        lays(64, 1L << 32, 0, 77);
        lays(64, (1L << 32) + 5, 0, 77);
        lays(64, Long.MIN_VALUE + 5, 0, 77);
        lays(64, Long.MAX_VALUE, 0, 77);
        lays(8, -128, 0, 77);
        for (int tortoises = 0; tortoises <= 8; tortoises++) {
            for (int numbers : new int[] {0, 1, 7, 8, 9, 40}) {
                TortoiseShelves x = new TortoiseShelves();
                for (int i = 0; i < tortoises; i++) {
                    x.tortoise(0, 0, 0);
                }
                x.sheet(0, 16, numbers);
                for (int i = 0; i < numbers; i++) {
                    x.write(0, i, 100 + i);
                }
                String name = numbers + " numbers for " + tortoises;
                d.due(name, x.lays(0), Math.min(numbers, tortoises));
                for (int i = 0; i < tortoises; i++) {
                    d.due(name + ": books of " + i, x.of(i, 2), i < numbers ? 100 + i : 0);
                }
            }
        }
    }

    private static void book() {
        b.range("book(_, 0)", BUSY, (x, v) -> x.book(v, 0), 0, 3, 3, Due.MISSING);
        b.range("book(0, _)", BUSY, (x, v) -> x.book(0, v), 0, 3, 5, 3);
        for (int t : new int[] {-1, 0, 6}) {
            b.refused("book: a missing one, tortoise " + t, BUSY, x -> x.book(MISSING_ONE, t), Due.MISSING);
            b.refused("book: no such sheet, tortoise " + t, BUSY, x -> x.book(4, t), Due.BEYOND);
            b.refused("book: no such sheet below, tortoise " + t, BUSY, x -> x.book(-1, t), Due.BEYOND);
        }
    }

    /** As many hours as it has numbers, up to 39 of them behind now. */
    private static void bookLengths() {
        for (int bits : new int[] {8, 16, 64}) {
            for (int n : new int[] {0, 1, 2, 39, 40}) {
                TortoiseShelves x = Scene.commuter();
                x.sheet(1, bits, n);
                d.due("book of " + n, x.book(1, 0), n);
                for (int i = 0; i < n; i++) {
                    d.due("book of " + n + ", number " + i, x.write(1, i, 0), x.on(0, i, 0));
                }
                d.due("book of " + n + ": no more", x.write(1, n, 0), Due.BEYOND);
                d.due("book of " + n + ": no hour went", x.now(0), 0);
                d.due("book of " + n + ": it stays", x.of(0, 1), 0);
            }
        }
        TortoiseShelves x = Scene.commuter();
        x.sheet(0, 8, 40);
        x.book(0, 0);
        int[][] seen = {{0, 0}, {20, 0}, {21, 18}, {22, 26}, {23, 29}, {24, 29}, {25, 11}, {26, 3}, {27, 0}, {28, 0}, {39, 0}};
        for (int[] s : seen) {
            d.due("seen behind " + s[0] + " hours", x.write(0, s[0], 0), s[1]);
        }
    }

    private static void read() {
        b.range("read(_, 0)", BUSY, (x, v) -> x.read(v, 0), 0, 0, 3, Due.MISSING);
        b.range("read(0, _)", BUSY, (x, v) -> x.read(0, v), 0, 0, 5, 0);
        for (int t : new int[] {-1, 0, 6}) {
            b.refused("read: a missing one, tortoise " + t, BUSY, x -> x.read(MISSING_ONE, t), Due.MISSING);
            b.refused("read: no such sheet, tortoise " + t, BUSY, x -> x.read(4, t), Due.BEYOND);
            b.refused("read: no such sheet below, tortoise " + t, BUSY, x -> x.read(-1, t), Due.BEYOND);
        }
        b.quiet("read: it asks alone", BUSY, x -> x.read(0, 3), 0);
    }

    private static void reads(String name, int bits, int want, long... numbers) {
        TortoiseShelves x = Scene.commuter();
        Scene.sheet(x, 0, bits, numbers);
        d.due(name, x.read(0, 0), want);
        d.due(name + ": no finding", x.status(-1), 0);
    }

    /** Numbers that are no CELL match none, whatever their lowest bits are. */
    private static void readNumbers() {
        for (int bits : new int[] {8, 16, 64}) {
            reads("nothing seen", bits, 180);
            reads("seen where it is", bits, 180, 0);
            reads("seen elsewhere", bits, 0, 1);
            reads("seen in 29", bits, 0, 29);
            reads("seen in 30", bits, 0, 30);
            reads("seen in -1", bits, 0, -1);
            reads("then in 30", bits, 0, 0, 30);
        }
        reads("1 << 32", 64, 0, 1L << 32);
        reads("the least long", 64, 0, Long.MIN_VALUE);
        reads("256 in 8 bits is 0", 8, 180, 256);
        reads("256 in 16 bits isn't", 16, 0, 256);
        // a step down as TORTOISE, LAW, CANON by a spring in a row below; as YOUNG, PAMPHLET by 6 itself
        reads("0, then 6", 16, 3 * 24 + 2, 0, 6);
        TortoiseShelves x = Scene.commuter();
        x.sheet(0, 8, 40);
        x.book(0, 0);
        d.due("what it does itself, alone", x.read(0, 0), 1);
        d.due("what is fenced may be its spring, too", readFenced(), 180);
        x.write(0, 39, 1);
        d.due("but for the last number", x.read(0, 0), 0);
    }

    private static int readFenced() {
        TortoiseShelves x = Scene.commuter();
        for (int c = 0; c < 30; c++) {
            x.fence(c, 1);
        }
        x.sheet(0, 8, 40);
        return x.read(0, 0);
    }
}
