import java.util.function.Supplier;

/** The bounds of promises 28 to 30, and those of THE TAPE and THE TEXT in "Terms". */
public final class BoundsTextTest {
    private static final String[] NAMES = {"tortoise", "young", "law", "old", "pamphlet", "canon"};
    private static final Due d = new Due();
    private static final Bounds b = new Bounds(d);
    private static final Supplier<TortoiseShelves> BUSY = Scene::busy;

    public static void main(String[] args) {
        feed();
        feedsAnyNumber();
        fullTape();
        wipe();
        emptyText();
        cells();
        subjects();
        clocks();
        numbers();
        tokens();
        everyByte();
        endsTooEarly();
        eightAndNine();
        itemsOfAFullTape();
        faultsOfAFullTape();
        faultChangesNothing();
        comesToWhatThereIs();
        d.end();
    }

    private static void feed() {
        b.range("feed(0, _)", BUSY, (x, v) -> x.feed(0, v), 1, 29, 4, 32);
        b.range("feed(-1, _)", BUSY, (x, v) -> x.feed(-1, v), 1, 29, 4, 32);
        TortoiseShelves x = new TortoiseShelves();
        int has = 0;
        for (int n = 1; n <= 4; n++) {
            has += n;
            d.due("feed(.., " + n + ")", x.feed(0x61626364, n), has);
            d.due("count(1) behind " + n, x.count(1), has);
        }
    }

    /** The highest of the lowest n bytes first, whatever stands above them. */
    private static void feedsAnyNumber() {
        TortoiseShelves x = new TortoiseShelves();
        x.feed(0x66726565, 4); // free
        x.feed(0x20202020, 4);
        x.feed(0x80393032, 2); // 02, the lowest two
        d.due("by two", x.island(), 1);
        x.feed(0x80666e63, 1); // c
        x.feed(0x7f616e6f, 3); // ano
        x.feed(0xff006e20, 2); // n, a blank
        x.feed(0x61742039, 4); // at 9
        d.due("by one, three, two, four", x.island(), 1);
        d.due("a canon came", x.of(0, 0), Due.CANON);
        d.due("in 9", x.of(0, 1), 9);
        for (int number : new int[] {0, -1, Integer.MIN_VALUE, Integer.MAX_VALUE}) {
            for (int n = 1; n <= 4; n++) {
                TortoiseShelves y = new TortoiseShelves();
                d.due("feed(" + number + ", " + n + ")", y.feed(number, n), n);
                d.due("no token by " + number + ", " + n, y.island(), -1);
            }
        }
    }

    private static void fullTape() {
        for (int has = 116; has <= 120; has++) {
            int bytes = has;
            Supplier<TortoiseShelves> taped = () -> Scene.taped(bytes);
            b.taken("it has " + has, taped, x -> x.count(1), has);
            for (int n = 1; n <= 4; n++) {
                int more = n;
                if (has + n <= 120) {
                    b.taken(n + " to " + has, taped, x -> x.feed(0x20202020, more), has + n);
                } else {
                    b.refused(n + " to " + has, taped, x -> x.feed(0x20202020, more), Due.FULL);
                }
            }
            b.refused("0 to " + has, taped, x -> x.feed(0x20202020, 0), Due.BEYOND);
            b.refused("5 to " + has, taped, x -> x.feed(0x20202020, 5), Due.BEYOND);
            b.refused("-1 to " + has, taped, x -> x.feed(0x20202020, -1), Due.BEYOND);
            b.refused("MAX to " + has, taped, x -> x.feed(0x20202020, Integer.MAX_VALUE), Due.BEYOND);
            b.refused("MIN to " + has, taped, x -> x.feed(0x20202020, Integer.MIN_VALUE), Due.BEYOND);
        }
        TortoiseShelves x = Scene.taped(119);
        d.due("full for two", x.feed(0, 2), Due.FULL);
        d.due("but not for one", x.feed(' ', 1), 120);
        d.due("as if it had not been asked", x.island(), 15);
    }

    private static void wipe() {
        for (int has : new int[] {0, 1, 119, 120}) {
            TortoiseShelves x = new TortoiseShelves();
            for (int i = 0; i < has; i++) {
                x.feed('a', 1);
            }
            d.due("wipe() of " + has, x.wipe(), has);
            d.due("empty behind " + has, x.count(1), 0);
            d.due("wipe() again behind " + has, x.wipe(), 0);
            d.due("from the start behind " + has, x.feed(0, 4), 4);
            d.due("no finding behind " + has, x.status(-1), 0);
        }
        TortoiseShelves x = Scene.busy();
        TortoiseShelves y = Scene.busy();
        x.wipe();
        y.island();
        d.due("a wiped text isn't told", x.count(2), 2);
        d.due("one that stays is told", y.count(2), 3);
    }

    private static void fault(String text, int place) {
        TortoiseShelves x = new TortoiseShelves();
        d.due('"' + text + '"', Due.island(x, text), -1 - place);
        b.same('"' + text + '"', x, new TortoiseShelves());
    }

    private static void right(String text, int items) {
        TortoiseShelves x = new TortoiseShelves();
        d.due('"' + text + '"', Due.island(x, text), items);
        d.due('"' + text + "\": the tape", x.count(1), 0);
        d.due('"' + text + "\": no finding", x.status(-1), 0);
    }

    private static void emptyText() {
        fault("", 0);
        fault(" ", 1);
        fault(" ".repeat(120), 120);
        TortoiseShelves x = new TortoiseShelves();
        d.due("told twice", x.island(), -1);
        Due.feed(x, "free 3");
        d.due("one item", x.island(), 1);
        d.due("the tape is empty then", x.island(), -1);
        d.due("no finding", x.status(-1), 0);
    }

    /** A NUMBER for a CELL: 0 and 29 may be, 30 may not. */
    private static void cells() {
        for (String word : new String[] {"fence", "free", "spring", "shade", "beach"}) {
            int at = word.length() + 1;
            right(word + " 0", 1);
            right(word + " 29", 1);
            fault(word + " 30", at);
            fault(word + " 999", at);
            fault(word + " -1", at);
            fault(word + " 0 0", at + 2);
        }
        for (String name : NAMES) {
            int at = name.length() + 4;
            right(name + " at 0", 1);
            right(name + " at 29", 1);
            fault(name + " at 30", at);
            fault(name + " at 999", at);
            fault(name + " at -1", at);
        }
        TortoiseShelves x = new TortoiseShelves();
        Due.island(x, "fence 0;fence 29;spring 0;shade 29;beach 0;old at 0;law at 29");
        d.due("0 is fenced", x.cell(0, 0), 1);
        d.due("29 is fenced", x.cell(29, 0), 1);
        d.due("two are", x.count(2), 2);
        d.due("spring", x.spot(0, 1), 0);
        d.due("shade", x.spot(1, 1), 29);
        d.due("beach", x.spot(2, 1), 0);
        d.due("the first", x.of(0, 1), 0);
        d.due("the second", x.of(1, 1), 29);
    }

    private static void subjects() {
        right("old at 3 0", 1);
        right("old at 3 11", 1);
        right("old at 3 0 1 2 3 4 5 6 7 8 9 10 11", 1);
        fault("old at 3 12", 9);
        fault("old at 3 999", 9);
        fault("old at 3 0 11 12", 14);
        fault("old at 3 -1", 9);
        fault("old at 3 11;law at 3 12", 21);
        TortoiseShelves x = new TortoiseShelves();
        Due.island(x, "old at 3;law at 3 0;law at 3 11;law at 3 0 11 0");
        int[] books = {0, 1, 1 << 11, 1 | 1 << 11};
        for (int i = 0; i < books.length; i++) {
            d.due("books of " + i, x.of(i, 2), books[i]);
        }
        String most = "old at 3" + " 1".repeat(56);
        d.due("as many as a tape has place for", Due.island(x, most), 1);
        d.due("one subject", x.of(4, 2), 2);
        d.due("the last one may not be", Due.island(x, "old at 3 " + " 1".repeat(54) + " 12"), -1 - 118);
    }

    private static void rains(String text, int set) {
        TortoiseShelves x = new TortoiseShelves();
        d.due('"' + text + '"', Due.island(x, text), 1);
        d.due('"' + text + "\": rain", x.rain(0), set);
    }

    private static void clocks() {
        rains("rain 0", 1);
        rains("rain 23", 1 << 23);
        rains("rain 0 to 0", 1);
        rains("rain 23 to 23", 1 << 23);
        rains("rain 22 to 23", 3 << 22);
        rains("rain 0 to 23", (1 << 24) - 1);
        rains("rain 5 to 5", 32);
        rains("rain 5 to 6", 96);
        fault("rain 24", 5);
        fault("rain 999", 5);
        fault("rain 0 to 24", 10);
        fault("rain 23 to 24", 11);
        fault("rain 5 to 4", 10);
        fault("rain 23 to 0", 11);
        fault("rain 23 to 22", 11);
        fault("rain 24 to 24", 5);
        fault("rain 24 to 5", 5);
        fault("rain to 5", 5);
        TortoiseShelves x = new TortoiseShelves();
        x.rain(Due.bits(1, 23));
        d.due("twice", Due.island(x, "rain 0 to 1;rain 1 to 2"), 2);
        d.due("it rains then, too", x.rain(0), Due.bits(0, 1, 2, 23));
    }

    /** As long as can be, 999 at most: no row of digits comes round to a number that may be. */
    private static void numbers() {
        right("fence 0000000000000000000029", 1);
        right("fence 00", 1);
        right("rain 007 to 0007", 1);
        right("old at 009 0011", 1);
        fault("fence 000000000000000000000030", 6);
        fault("fence 999", 6);
        fault("fence 1000", 6);
        fault("fence 1001", 6);
        fault("fence 10000", 6);
        for (String wraps : new String[] {"256", "65536", "65541", "2147483648", "4294967296", "4294967301",
            "9223372036854775808", "18446744073709551616", "18446744073709551621", "0018446744073709551621"}) {
            fault("fence " + wraps, 6);
            fault("rain " + wraps, 5);
            fault("rain 3 to " + wraps, 10);
            fault("old at " + wraps, 7);
            fault("old at 3 " + wraps, 9);
        }
        fault("fence " + "9".repeat(114), 6);
        right("fence " + "0".repeat(114), 1);
    }

    /** Each TOKEN as long as can be, blanks between or not. */
    private static void tokens() {
        right("fence29", 1);
        right("rain3to4", 1);
        right("old at3", 1);
        right("old at3 4;fence5", 2);
        right("   fence   3   ;   free   3   ", 2);
        right("fence 3 ;free 3", 2);
        fault("oldat 3", 0);
        fault("fence3 4", 7);
        fault("fence 3fence 4", 7);
        fault("fence 2 9", 8);
        fault("old at 1 1;old at 11 1 1 111", 25);
        fault("f ence 3", 0);
        fault("fencefence 3", 0);
        fault("springs 3", 0);
        fault("rain 3 to4to 5", 10);
        fault("rain 3 tom 4", 7);
        fault("rain 3 t 4", 7);
        fault("old a 3", 4);
        fault("old ata 3", 4);
        fault("old", 3);
        for (String name : NAMES) {
            fault(name + "s at 3", 0);
            fault(name.substring(1) + " at 3", 0);
            fault(name.substring(0, name.length() - 1) + " at 3", 0);
            fault(name + " to 3", name.length() + 1);
            fault(name + " 3", name.length() + 1);
        }
    }

    /** A byte behind an ITEM: a blank, a digit and the sign may stand there, nothing else. */
    private static void everyByte() {
        for (int c = 0; c < 256; c++) {
            TortoiseShelves x = new TortoiseShelves();
            Due.feed(x, "free 2");
            x.feed(c, 1);
            int want = c == ' ' || c >= '0' && c <= '9' ? 1 : c == ';' ? -8 : -7;
            d.due("byte " + c + " behind an item", x.island(), want);
        }
        for (int c = 0; c < 256; c++) {
            TortoiseShelves x = new TortoiseShelves();
            x.feed(c, 1);
            Due.feed(x, "free 2");
            d.due("byte " + c + " ahead of an item", x.island(), c == ' ' ? 1 : -1);
        }
    }

    /** A text that ends ahead of what must come: how many bytes there are, blanks too. */
    private static void endsTooEarly() {
        String[] early = {"fence", "free", "spring", "shade", "beach", "rain", "rain 3 to", "old", "old at", "fence 3;",
            "old at 3;", "rain 3;", "rain 3 to 4;", "canon", "canon at"};
        for (String text : early) {
            fault(text, text.length());
            fault(text + " ", text.length() + 1);
            fault(text + "     ", text.length() + 5);
        }
    }

    private static TortoiseShelves has(int tortoises) {
        TortoiseShelves x = new TortoiseShelves();
        for (int i = 0; i < tortoises; i++) {
            x.tortoise(0, i, 1);
        }
        return x;
    }

    private static void eightAndNine() {
        TortoiseShelves x = new TortoiseShelves();
        String eight = "old at 1;old at 2;old at 3;old at 4;old at 5;old at 6;old at 7;old at 8";
        d.due("a 9th", Due.island(x, eight + ";old at 9"), -1 - 72);
        d.due("none came", x.count(0), 0);
        d.due("a 9th without a cell", Due.island(x, eight + ";old"), -1 - 72);
        d.due("another word for a 9th", Due.island(x, eight + ";olds at 9"), -1 - 72);
        d.due("behind eight, a fence", Due.island(x, eight + ";fence 9"), 9);
        d.due("eight came", x.count(0), 8);
        d.due("the 8th is in 8", x.of(7, 1), 8);
        for (int kind = 0; kind < 6; kind++) {
            TortoiseShelves seven = has(7);
            d.due("an 8th: " + NAMES[kind], Due.island(seven, NAMES[kind] + " at 29 11"), 1);
            d.due("it is the 8th", seven.of(7, 0), kind);
            d.due("a 9th: " + NAMES[kind], Due.island(seven, NAMES[kind] + " at 29 11"), -1);
            d.due("an item, then a 9th: " + NAMES[kind], Due.island(seven, "fence 4; " + NAMES[kind] + " at 29 11"), -10);
            d.due("eight, as they were", seven.count(0), 8);
            d.due("no fence", seven.count(2), 0);
        }
        Supplier<TortoiseShelves> full = () -> {
            TortoiseShelves y = has(8);
            Due.feed(y, "old at 1");
            return y;
        };
        Supplier<TortoiseShelves> wiped = () -> has(8);
        TortoiseShelves y = full.get();
        d.due("a 9th by a text is no finding", y.island() + y.status(-1), -1);
        b.same("a 9th by a text", y, wiped.get());
    }

    private static void itemsOfAFullTape() {
        TortoiseShelves x = new TortoiseShelves();
        d.due("seventeen items", Due.island(x, "free 0;".repeat(16) + "fence 29"), 17);
        d.due("the last one of 120 bytes", x.cell(29, 0), 1);
        d.due("twenty items", Due.island(x, "rain0;".repeat(19) + "rain23"), 20);
        d.due("rain by the first and the last", x.rain(0), Due.bits(0, 23));
        d.due("119 bytes", Due.island(x, "free 20;".repeat(14) + "free 29"), 15);
        d.due("29 is free", x.cell(29, 0), 0);
    }

    private static void faultsOfAFullTape() {
        String text = "free 20;".repeat(14);
        fault(text + "free 20;", 120);
        fault(text + "free 2 x", 119);
        fault(text + "free   x", 119);
        fault(text + "free    ", 120);
        fault(text + "free 200", 117);
        fault(text + "freefree", 112);
        fault(text + "frees", 112);
        fault(text + "       ,", 119);
        fault(text + "        ", 120);
        fault("x" + " ".repeat(119), 0);
        fault("a".repeat(120), 0);
        fault("9".repeat(120), 0);
        fault(";".repeat(120), 0);
    }

    private static void faultChangesNothing() {
        String[] texts = {"x", "old at 3 4;fence 5;free 8;rain 3 to 4;spring 3;shade 3;beach 3;x",
            "young at 0;young at 0;young at 0", "fence 3;", "free 29;free 8;rain 0 to 23;fence 30", "canon at 3 4 5 6 12"};
        Supplier<TortoiseShelves> wiped = () -> {
            TortoiseShelves y = Scene.busy();
            y.wipe();
            return y;
        };
        for (String text : texts) {
            TortoiseShelves x = wiped.get();
            Due.feed(x, text);
            d.due('"' + text + "\" is a fault", x.island() < 0 ? 1 : 0, 1);
            d.due('"' + text + "\" is no finding", x.status(-1), 0);
            b.same('"' + text + '"', x, wiped.get());
        }
    }

    /** A text adds to what there is, item by item, and leaves the rest. */
    private static void comesToWhatThereIs() {
        TortoiseShelves x = Scene.busy();
        d.due("the text of the scene", x.island(), 3);
        d.due("fences", x.count(2), 3);
        d.due("3 is fenced", x.cell(3, 0), 1);
        d.due("rain", x.rain(0), Scene.BUSY_RAIN | Due.bits(7, 8, 9));
        d.due("spring", x.spot(0, 0), 2);
        d.due("shade", x.spot(1, 0), 2);
        d.due("beach", x.spot(2, 0), 25);
        d.due("hour", x.now(0), 5);
        d.due("tortoises", x.count(0), 6);
        d.due("tipped", x.count(3), 1);
        d.due("in a later item's words", Due.island(x, "fence 4;free 4;fence 5;free 3;law at 5 1;old at 5"), 6);
        d.due("4 is free", x.cell(4, 0), 0);
        d.due("5 is fenced", x.cell(5, 0), 1);
        d.due("3 is free", x.cell(3, 0), 0);
        d.due("eight", x.count(0), 8);
        d.due("the 7th and the 8th are in 5", x.cell(5, 1), Due.bits(6, 7));
        d.due("the image is as it was", x.undo(), 1);
        d.due("its fence", x.cell(20, 0), 1);
    }
}
