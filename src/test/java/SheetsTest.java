/** Promises 31 to 36: sheet, write, copy, lays, book, read. */
public final class SheetsTest {
    private static final Due d = new Due();

    public static void main(String[] args) {
        sheet();
        write();
        copy();
        copyFindings();
        lays();
        book();
        read();
        d.end();
    }

    private static void sheet() {
        TortoiseShelves x = new TortoiseShelves();
        for (int bits : new int[] {8, 16, 64}) {
            d.due("sheet(3, " + bits + ", 40)", x.sheet(3, bits, 40), 40);
            d.due("all 0", x.write(3, 39, 5), 0);
            d.due("sheet(3, " + bits + ", 40) again", x.sheet(3, bits, 40), 40);
            d.due("all 0 again", x.write(3, 39, 5), 0);
            d.due("sheet(3, " + bits + ", 0)", x.sheet(3, bits, 0), 0);
            d.due("no number 0", x.write(3, 0, 5), Due.BEYOND);
        }
        d.due("bits 0 with n", x.sheet(3, 0, 7), 0);
        d.due("it is missing", x.write(3, 0, 5), Due.MISSING);
        d.due("bits 0, below 0", x.sheet(3, 0, -1), Due.SIZE);
        d.due("bits 0, above 40", x.sheet(3, 0, 41), Due.BEYOND);
        d.due("below 0", x.sheet(0, 8, -1), Due.SIZE);
        d.due("far below 0", x.sheet(0, 8, Integer.MIN_VALUE), Due.SIZE);
        d.due("above 40", x.sheet(0, 8, 41), Due.BEYOND);
        d.due("far above 40", x.sheet(0, 8, Integer.MAX_VALUE), Due.BEYOND);
        d.due("no such sheet", x.sheet(4, 8, -1), Due.BEYOND);
        d.due("no such sheet below", x.sheet(-1, 8, -1), Due.BEYOND);
        for (int bits : new int[] {-1, 1, 7, 9, 15, 17, 32, 63, 65, 128, Integer.MIN_VALUE, Integer.MAX_VALUE}) {
            d.due("bits " + bits, x.sheet(0, bits, -1), Due.BEYOND);
        }
        d.due("none was made", x.lays(0), Due.MISSING);
        x.sheet(1, 8, 3);
        x.write(1, 2, 9);
        d.due("a finding", x.sheet(1, 16, 41), Due.BEYOND);
        d.due("changes nothing", x.write(1, 2, 9), 9);
        d.due("size was counted", x.status(6), 3);
        x.sheet(1, 16, 2);
        d.due("shorter now", x.write(1, 2, 9), Due.BEYOND);
    }

    private static void write() {
        TortoiseShelves x = new TortoiseShelves();
        x.sheet(0, 8, 2);
        x.sheet(1, 16, 2);
        x.sheet(2, 64, 2);
        long v = 0x12345678abc7def5L;
        long[] held = {(byte) v, (short) v, v};
        for (int s = 0; s < 3; s++) {
            d.due("write to " + s, x.write(s, 1, v), 0);
            d.due("held in " + s, x.write(s, 1, -1), held[s]);
            d.due("all ones in " + s, x.write(s, 1, 100), -1);
            d.due("small in " + s, x.write(s, 1, 0), 100);
            d.due("the other one in " + s, x.write(s, 0, 0), 0);
            d.due("write(" + s + ", 2, 0)", x.write(s, 2, 0), Due.BEYOND);
            d.due("write(" + s + ", -1, 0)", x.write(s, -1, 0), Due.BEYOND);
            d.due("write(" + s + ", MAX, 0)", x.write(s, Integer.MAX_VALUE, 0), Due.BEYOND);
            d.due("write(" + s + ", MIN, 0)", x.write(s, Integer.MIN_VALUE, 0), Due.BEYOND);
        }
        x.write(2, 0, Long.MIN_VALUE);
        d.due("the least long", x.write(2, 0, Long.MAX_VALUE), Long.MIN_VALUE);
        d.due("the greatest long", x.write(2, 0, Due.MISSING), Long.MAX_VALUE);
        int findings = x.status(-1);
        d.due("a number like a finding", x.write(2, 0, 0), Due.MISSING);
        d.due("isn't one", x.status(-1), findings);
        d.due("write(3, 0, 0)", x.write(3, 0, 0), Due.MISSING);
        d.due("write(3, -1, 0)", x.write(3, -1, 0), Due.MISSING);
        d.due("write(4, 0, 0)", x.write(4, 0, 0), Due.BEYOND);
        d.due("write(-1, 0, 0)", x.write(-1, 0, 0), Due.BEYOND);
    }

    private static void numbers(String name, TortoiseShelves x, int s, long... want) {
        for (int i = 0; i < want.length; i++) {
            long was = x.write(s, i, 0);
            d.due(name + ", number " + i, was, want[i]);
            x.write(s, i, was);
        }
    }

    private static void fill(TortoiseShelves x, int s, long... numbers) {
        for (int i = 0; i < numbers.length; i++) {
            x.write(s, i, numbers[i]);
        }
    }

    private static void copy() {
        TortoiseShelves x = new TortoiseShelves();
        x.sheet(0, 16, 5);
        x.sheet(1, 16, 3);
        fill(x, 0, 1, 2, 3, 4, 5);
        d.due("copy(0, 1, 1, 0, 3)", x.copy(0, 1, 1, 0, 3), 3);
        numbers("copied", x, 1, 2, 3, 4);
        numbers("the source", x, 0, 1, 2, 3, 4, 5);
        d.due("onwards in itself", x.copy(0, 0, 0, 1, 4), 4);
        numbers("as they all were, onwards", x, 0, 1, 1, 2, 3, 4);
        fill(x, 0, 1, 2, 3, 4, 5);
        d.due("back in itself", x.copy(0, 1, 0, 0, 4), 4);
        numbers("as they all were, back", x, 0, 2, 3, 4, 5, 5);
        d.due("none", x.copy(0, 0, 1, 0, 0), 0);
        d.due("none at the ends", x.copy(0, 5, 1, 3, 0), 0);
        d.due("none beyond the end", x.copy(0, 6, 1, 3, 0), Due.BEYOND);
        d.due("none to beyond the end", x.copy(0, 5, 1, 4, 0), Due.BEYOND);
        d.due("one to the last", x.copy(0, 4, 1, 2, 1), 1);
        numbers("the last", x, 1, 2, 3, 5);
    }

    private static void copyFindings() {
        TortoiseShelves x = new TortoiseShelves();
        x.sheet(0, 16, 5);
        x.sheet(1, 16, 3);
        x.sheet(2, 8, 5);
        fill(x, 0, 1, 2, 3, 4, 5);
        int max = Integer.MAX_VALUE;
        int min = Integer.MIN_VALUE;
        int[][] wrong = {{0, 0, 4}, {0, 1, 3}, {3, 0, 3}, {-1, 0, 1}, {0, -1, 1}, {0, 0, -1}, {max, 0, 1},
            {0, max, 1}, {0, 0, max}, {1, 1, max}, {max, max, max}, {min, 0, 1}, {0, min, 1}, {0, 0, min},
            {max, 0, min}, {1, 1, min}, {-1, -1, -1}};
        for (int[] w : wrong) {
            d.due("copy(0, " + w[0] + ", 1, " + w[1] + ", " + w[2] + ")", x.copy(0, w[0], 1, w[1], w[2]), Due.BEYOND);
        }
        numbers("nothing came", x, 1, 0, 0, 0);
        d.due("other bits", x.copy(0, 0, 2, 0, 1), Due.KIND);
        d.due("other bits ahead of places", x.copy(0, -1, 2, 99, -1), Due.KIND);
        d.due("a missing one", x.copy(0, 0, 3, 0, 1), Due.MISSING);
        d.due("from a missing one", x.copy(3, 0, 0, 0, -1), Due.MISSING);
        d.due("both missing", x.copy(3, 0, 3, 0, 0), Due.MISSING);
        d.due("no such target", x.copy(3, 0, 4, 0, 1), Due.BEYOND);
        d.due("no such source", x.copy(-1, 0, 3, 0, 1), Due.BEYOND);
        d.due("no such target below", x.copy(0, 0, -1, 0, 1), Due.BEYOND);
        d.due("no such source above", x.copy(4, 0, 0, 0, 1), Due.BEYOND);
    }

    private static void lays() {
        TortoiseShelves x = new TortoiseShelves();
        for (int i = 0; i < 4; i++) {
            x.tortoise(0, i, 7);
        }
        x.sheet(0, 64, 6);
        fill(x, 0, 4095, 4096, -1, 0, 5, 6);
        d.due("lays(0)", x.lays(0), 2);
        int[] books = {4095, 7, 7, 0};
        for (int i = 0; i < 4; i++) {
            d.due("books of " + i, x.of(i, 2), books[i]);
        }
        fill(x, 0, 1L << 32, Long.MIN_VALUE, Long.MAX_VALUE, (1L << 32) + 1);
        d.due("no sets of long ones", x.lays(0), 0);
        d.due("books of 0", x.of(0, 2), 4095);
        x.sheet(1, 8, 2);
        fill(x, 1, 127, 9);
        d.due("two of them", x.lays(1), 2);
        d.due("books of 0 by 8 bits", x.of(0, 2), 127);
        d.due("books of 1 by 8 bits", x.of(1, 2), 9);
        d.due("books of 3 stay", x.of(3, 2), 0);
        x.sheet(1, 16, 0);
        d.due("an empty sheet", x.lays(1), 0);
        d.due("lays(2)", x.lays(2), Due.MISSING);
        d.due("lays(4)", x.lays(4), Due.BEYOND);
        d.due("lays(-1)", x.lays(-1), Due.BEYOND);
        TortoiseShelves none = new TortoiseShelves();
        none.sheet(0, 8, 40);
        d.due("no tortoises", none.lays(0), 0);
    }

    private static void book() {
        TortoiseShelves x = new TortoiseShelves();
        x.tortoise(Due.TORTOISE, 0, 0);
        x.tortoise(Due.YOUNG, 29, 0);
        for (int bits : new int[] {8, 16, 64}) {
            x.sheet(0, bits, 7);
            d.due("book(0, 0)", x.book(0, 0), 7);
            numbers("its way in " + bits, x, 0, 0, 6, 12, 13, 14, 14, 14);
            d.due("book(0, 1)", x.book(0, 1), 7);
            numbers("the other one's way in " + bits, x, 0, 29, 17, 15, 14, 14, 14, 14);
        }
        d.due("nothing moved", x.of(0, 1), 0);
        d.due("no hour went", x.now(0), 0);
        x.sheet(1, 8, 0);
        d.due("book(1, 0)", x.book(1, 0), 0);
        x.sheet(1, 8, 40);
        d.due("book of 40", x.book(1, 1), 40);
        d.due("book(0, 2)", x.book(0, 2), Due.BEYOND);
        d.due("book(0, -1)", x.book(0, -1), Due.BEYOND);
        d.due("book(2, 0)", x.book(2, 0), Due.MISSING);
        d.due("book(2, 9)", x.book(2, 9), Due.MISSING);
        d.due("book(4, 0)", x.book(4, 0), Due.BEYOND);
        d.due("book(-1, 0)", x.book(-1, 0), Due.BEYOND);
    }

    private static void read() {
        TortoiseShelves x = new TortoiseShelves();
        x.tortoise(Due.TORTOISE, 0, 0);
        x.fence(29, 1);
        x.sheet(0, 16, 0);
        d.due("nothing seen: all", x.read(0, 0), 180);
        x.sheet(0, 16, 1);
        d.due("seen in 0: all", x.read(0, 0), 180);
        x.write(0, 0, 1);
        d.due("seen in 1: none", x.read(0, 0), 0);
        x.sheet(0, 16, 2);
        x.write(0, 1, 6);
        // a step down: as TORTOISE, LAW, CANON by all springs below row 0; as YOUNG, PAMPHLET by 6 itself
        d.due("0 then 6", x.read(0, 0), 3 * 24 + 2);
        x.write(0, 1, 0);
        // staying: by a spring in 0, five kinds; as OLD, dry, by any
        d.due("0 then 0", x.read(0, 0), 5 + 30);
        x.write(0, 1, 18);
        // three steps down: as PAMPHLET by 18 and what is beyond it in rows 3 and 4
        d.due("0 then 18", x.read(0, 0), 12);
        x.set(0, 3, 1);
        d.due("tipped, but it went", x.read(0, 0), 0);
        x.write(0, 1, 0);
        d.due("tipped, it stayed: all", x.read(0, 0), 180);
        x.set(0, 3, 0);
        x.sheet(1, 64, 1);
        x.write(1, 0, 1L << 32);
        d.due("no cell", x.read(1, 0), 0);
        d.due("kind as it was", x.of(0, 0), Due.TORTOISE);
        d.due("spring as it was", x.spot(0, 14), 14);
        d.due("read(0, 1)", x.read(0, 1), Due.BEYOND);
        d.due("read(0, -1)", x.read(0, -1), Due.BEYOND);
        d.due("read(2, 0)", x.read(2, 0), Due.MISSING);
        d.due("read(2, 9)", x.read(2, 9), Due.MISSING);
        d.due("read(4, 0)", x.read(4, 0), Due.BEYOND);
        d.due("read(-1, 0)", x.read(-1, 0), Due.BEYOND);
    }
}
