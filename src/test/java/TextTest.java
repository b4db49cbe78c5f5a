/** Promises 28 to 30: feed, wipe, island. */
public final class TextTest {
    private static final Due d = new Due();

    public static void main(String[] args) {
        feedAndWipe();
        feedsBytesInOrder();
        tortoises();
        fences();
        rains();
        spots();
        blanks();
        faults();
        numbers();
        ninth();
        nothingChanges();
        fullTape();
        d.end();
    }

    private static void feedAndWipe() {
        TortoiseShelves x = new TortoiseShelves();
        d.due("feed(0, 0)", x.feed(0, 0), Due.BEYOND);
        d.due("feed(0, 5)", x.feed(0, 5), Due.BEYOND);
        d.due("feed(0, -1)", x.feed(0, -1), Due.BEYOND);
        for (int far : Due.FAR) {
            d.due("feed(0, " + far + ")", x.feed(0, far), Due.BEYOND);
        }
        d.due("nothing fed", x.count(1), 0);
        for (int n = 4; n <= 116; n += 4) {
            d.due("feed to " + n, x.feed(-1, 4), n);
        }
        d.due("119", x.feed(0, 3), 119);
        d.due("two of one", x.feed(0, 2), Due.FULL);
        d.due("a wrong n is asked first", x.feed(0, 5), Due.BEYOND);
        d.due("still 119", x.count(1), 119);
        d.due("120", x.feed(0, 1), 120);
        d.due("one more", x.feed(0, 1), Due.FULL);
        d.due("wipe()", x.wipe(), 120);
        d.due("wipe() again", x.wipe(), 0);
        d.due("from the start", x.feed(0, 2), 2);
    }

    /** The order is seen by the place of the first byte that begins no token. */
    private static void feedsBytesInOrder() {
        TortoiseShelves x = new TortoiseShelves();
        x.feed(0x66656e63, 4); // fenc
        x.feed(0x7f006520, 2); // e, blank: the lowest two alone
        x.feed(0x00003137, 2); // 17
        d.due("fence 17", x.island(), 1);
        d.due("17 is fenced", x.cell(17, 0), 1);
        x.feed(0x66, 1);
        x.feed(0xfff72656, 2); // r is not the first of these: 0x26, 0x56
        d.due("a byte that begins no token", x.island(), -1);
        Due.feed(x, "free 1");
        x.feed(0x80, 1);
        d.due("bytes above 127", x.island(), -7);
    }

    private static void tortoises() {
        TortoiseShelves x = new TortoiseShelves();
        String[] names = {"tortoise", "young", "law", "old", "pamphlet", "canon"};
        for (int kind = 0; kind < 6; kind++) {
            d.due(names[kind], Due.island(x, names[kind] + " at " + (kind + 24) + " " + kind + " 11"), 1);
            d.due("kind of " + names[kind], x.of(kind, 0), kind);
            d.due("cell of " + names[kind], x.of(kind, 1), kind + 24);
            d.due("books of " + names[kind], x.of(kind, 2), Due.bits(kind, 11));
            d.due("not tipped: " + names[kind], x.of(kind, 3), 0);
        }
        d.due("no books", Due.island(x, "old at 0"), 1);
        d.due("no books: books", x.of(6, 2), 0);
        d.due("all, one twice", Due.island(x, "law at 29 0 1 2 3 4 5 6 7 8 9 10 11 3"), 1);
        d.due("all, one twice: books", x.of(7, 2), 4095);
        d.due("the tape is empty", x.count(1), 0);
    }

    private static void fences() {
        TortoiseShelves x = new TortoiseShelves();
        d.due("fence two, free one", Due.island(x, "fence 0;fence 29;free 0;free 5"), 4);
        d.due("0 is free", x.cell(0, 0), 0);
        d.due("29 is fenced", x.cell(29, 0), 1);
        d.due("one", x.count(2), 1);
        d.due("freed by a text", Due.island(x, "free 29"), 1);
        d.due("none", x.count(2), 0);
    }

    private static void rains() {
        TortoiseShelves x = new TortoiseShelves();
        x.rain(1);
        d.due("rain 3", Due.island(x, "rain 3"), 1);
        d.due("it rains at 0, too", x.rain(0), Due.bits(0, 3));
        d.due("rain 3 to 5;rain 23", Due.island(x, "rain 3 to 5;rain 23"), 2);
        d.due("3, 4, 5, 23", x.rain(0), Due.bits(3, 4, 5, 23));
        d.due("rain 7 to 7", Due.island(x, "rain 7 to 7"), 1);
        d.due("7", x.rain(0), Due.bits(7));
        d.due("rain 0 to 23", Due.island(x, "rain 0 to 23"), 1);
        d.due("all", x.rain(0), (1 << 24) - 1);
    }

    private static void spots() {
        TortoiseShelves x = new TortoiseShelves();
        d.due("spots", Due.island(x, "spring 1;shade 2;beach 29"), 3);
        d.due("spring", x.spot(0, 0), 1);
        d.due("shade", x.spot(1, 0), 2);
        d.due("beach", x.spot(2, 0), 29);
        d.due("spots in 0", Due.island(x, "spring 0;shade 0;beach 0"), 3);
        d.due("beach 0", x.spot(2, 9), 0);
        d.due("the last one holds", Due.island(x, "spring 4;spring 5"), 2);
        d.due("spring 5", x.spot(0, 0), 5);
    }

    private static void blanks() {
        TortoiseShelves x = new TortoiseShelves();
        d.due("without blanks", Due.island(x, "rain3to4;fence9;spring5"), 3);
        d.due("rain by that", x.rain(0), Due.bits(3, 4));
        d.due("many blanks", Due.island(x, "  old   at  3   4  ;  fence  8  "), 2);
        d.due("books by that", x.of(0, 2), 16);
        d.due("at3", Due.island(x, "old at3 4"), 1);
        d.due("no blank between words", Due.island(x, "oldat 3"), -1);
        d.due("a tab", Due.island(x, "old\tat 3"), -4);
        d.due("a new line", Due.island(x, "fence 3\n"), -8);
        d.due("no blank between numbers", Due.island(x, "old at 3 12"), -10);
    }

    private static void fault(String text, int place) {
        TortoiseShelves x = new TortoiseShelves();
        d.due('"' + text + '"', Due.island(x, text), -1 - place);
        d.due('"' + text + "\": the tape", x.count(1), 0);
        d.due('"' + text + "\": no finding", x.status(-1), 0);
        d.due('"' + text + "\": no tortoise", x.count(0), 0);
        d.due('"' + text + "\": no fence", x.count(2), 0);
        d.due('"' + text + "\": no rain", x.rain(0), 0);
        d.due('"' + text + "\": the spring", x.spot(0, 0), 14);
    }

    private static void faults() {
        fault("", 0);
        fault("   ", 3);
        fault(";", 0);
        fault("fence 3;", 8);
        fault("fence 3;  ", 10);
        fault("fence 3;;fence 4", 8);
        fault("fence 3 4", 8);
        fault("fence 3 fence 4", 8);
        fault("fence", 5);
        fault("fence ", 6);
        fault("fence at 3", 6);
        fault("fence ;", 6);
        fault("fence 30", 6);
        fault("free 30", 5);
        fault("fences 3", 0);
        fault("fenc 3", 0);
        fault("fencez 3", 0);
        fault("xence 3", 0);
        fault("afence 3", 0);
        fault("fence` 3", 5);
        fault("fence{ 3", 5);
        fault("fence 3/", 7);
        fault("fence 3:", 7);
        fault("Fence 3", 0);
        fault("fEnce 3", 0);
        fault("3 fence", 0);
        fault("at 3", 0);
        fault("to 3", 0);
        fault("fence 3;at 3", 8);
        fault("old", 3);
        fault("old at", 6);
        fault("old 3", 4);
        fault("old to 3", 4);
        fault("old at old", 7);
        fault("old at 30", 7);
        fault("old at 3 12", 9);
        fault("old at 3 1 2 99 3", 13);
        fault("old at 3 1 at", 11);
        fault("old at 3 to 4", 9);
        fault("old at 3 -1", 9);
        fault("rain", 4);
        fault("rain 24", 5);
        fault("rain 3 4", 7);
        fault("rain 3 to", 9);
        fault("rain 3 to 24", 10);
        fault("rain 3 to 2", 10);
        fault("rain 3 at 4", 7);
        fault("rain 3 to 4 to 5", 12);
        fault("rain 3 to 4 5", 12);
        fault("rain to 4", 5);
        fault("spring", 6);
        fault("spring 30", 7);
        fault("spring at 3", 7);
        fault("shade 30", 6);
        fault("beach 30", 6);
        fault("spring 3 4", 9);
        fault("fence 3,fence 4", 7);
        fault("fence 3.", 7);
        fault("fence 3!;", 7);
        fault("old at 3 4; fence 5; rain 3 to 4; spring 3; free x", 49);
        fault("old at 3;spring 2;rain 2;fence 2;", 33);
    }

    private static void numbers() {
        TortoiseShelves x = new TortoiseShelves();
        d.due("leading blanks of a number: 007", Due.island(x, "fence 007"), 1);
        d.due("7 is fenced", x.cell(7, 0), 1);
        d.due("0000000000000011", Due.island(x, "old at 0 0000000000000011"), 1);
        d.due("subject 11", x.of(0, 2), 1 << 11);
        fault("fence 999", 6);
        fault("fence 1000", 6);
        fault("fence 4294967296", 6);
        fault("fence 4294967303", 6);
        fault("fence 18446744073709551616", 6);
        fault("fence 10000000000000000000000000000000000000000000000000", 6);
    }

    private static void ninth() {
        TortoiseShelves x = new TortoiseShelves();
        for (int i = 0; i < 6; i++) {
            x.tortoise(0, 0, 0);
        }
        d.due("a 9th in the text", Due.island(x, "old at 1;law at 2;canon at 3"), -19);
        d.due("none came", x.count(0), 6);
        d.due("a 9th is told ahead of what stands behind it", Due.island(x, "old at 1;law at 2;canon x"), -19);
        d.due("a fault ahead of the 9th", Due.island(x, "old at 1;law at 2 y;canon at 3"), -19);
        d.due("two more", Due.island(x, "old at 1;law at 2 11;fence 4"), 3);
        d.due("eight", x.count(0), 8);
        d.due("the 8th", x.of(7, 2), 1 << 11);
        d.due("with eight", Due.island(x, "fence 5;old at 1"), -9);
        d.due("5 is free", x.cell(5, 0), 0);
        d.due("no tortoise is needed", Due.island(x, "fence 5"), 1);
    }

    private static void nothingChanges() {
        TortoiseShelves x = new TortoiseShelves();
        x.tortoise(0, 9, 3);
        x.set(0, 3, 1);
        x.hours(5);
        d.due("a text leaves the rest", Due.island(x, "young at 9 4"), 1);
        d.due("hour", x.now(0), 5);
        d.due("tipped", x.of(0, 3), 1);
        d.due("books", x.of(0, 2), 3);
        d.due("both there", x.cell(9, 1), 3);
        d.due("a text with a fault", Due.island(x, "young at 9 4;"), -14);
        d.due("still two", x.count(0), 2);
    }

    private static void fullTape() {
        TortoiseShelves x = new TortoiseShelves();
        String text = "free 20;".repeat(14) + "free 20";
        d.due("a full tape", Due.island(x, text + " "), 15);
        d.due("a full tape that ends too early", Due.island(x, text + ";"), -121);
        d.due("a full tape with a number too far", Due.island(x, text + "9"), -1 - 117);
    }
}
