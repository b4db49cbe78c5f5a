/** Promises 37 to 41: image, undo, tear, count, status. */
public final class ImagesTest {
    private static final Due d = new Due();

    public static void main(String[] args) {
        all();
        latest();
        notKept();
        fewerAndMore();
        count();
        status();
        statusStays();
        d.end();
    }

    private static void all() {
        TortoiseShelves x = new TortoiseShelves();
        x.tortoise(Due.LAW, 0, 5);
        x.tortoise(Due.OLD, 9, 6);
        x.set(1, 3, 1);
        x.fence(20, 1);
        x.spot(0, 13);
        x.spot(1, 12);
        x.spot(2, 11);
        x.rain(9);
        x.hours(1);
        d.due("image()", x.image(), 1);
        x.turn(0, Due.CANON);
        x.set(0, 1, 29);
        x.set(0, 2, 1);
        x.set(1, 3, 0);
        x.tortoise(0, 0, 1);
        x.fence(20, 0);
        x.fence(21, 1);
        x.spot(0, 1);
        x.spot(1, 2);
        x.spot(2, 3);
        x.rain(0);
        x.hours(9);
        d.due("undo()", x.undo(), 2);
        d.due("tortoises", x.count(0), 2);
        d.due("kind", x.of(0, 0), Due.LAW);
        d.due("cell", x.of(0, 1), 6);
        d.due("books", x.of(0, 2), 5);
        d.due("tipped", x.of(1, 3), 1);
        d.due("cell of the other one", x.of(1, 1), 9);
        d.due("fences", x.cell(20, 0), 1);
        d.due("no other fence", x.count(2), 1);
        d.due("spring", x.spot(0, 0), 13);
        d.due("shade", x.spot(1, 0), 12);
        d.due("beach", x.spot(2, 0), 11);
        d.due("rain", x.rain(0), 9);
        d.due("hour", x.now(0), 1);
    }

    private static void latest() {
        TortoiseShelves x = new TortoiseShelves();
        d.due("nothing is kept", x.undo(), Due.NONE);
        x.fence(1, 1);
        x.image();
        x.fence(2, 1);
        x.image();
        x.fence(3, 1);
        d.due("to the latest", x.undo(), 0);
        d.due("two fences", x.count(2), 2);
        x.fence(4, 1);
        d.due("which stays", x.undo(), 0);
        d.due("still two fences", x.count(2), 2);
        d.due("tear()", x.tear(), 1);
        d.due("tear() again", x.tear(), 0);
        d.due("nothing is kept any more", x.undo(), Due.NONE);
        d.due("and nothing changed", x.count(2), 2);
        d.due("image() behind tear()", x.image(), 1);
        d.due("undo() behind tear()", x.undo(), 0);
    }

    private static void notKept() {
        TortoiseShelves x = new TortoiseShelves();
        x.sheet(0, 8, 1);
        x.write(0, 0, 5);
        x.feed(97, 1);
        x.image();
        x.write(0, 0, 6);
        x.sheet(1, 8, 1);
        x.feed(97, 2);
        x.status(99);
        x.undo();
        d.due("a sheet isn't kept", x.write(0, 0, 0), 6);
        d.due("a new sheet isn't taken back", x.write(1, 0, 0), 0);
        d.due("the tape isn't kept", x.count(1), 3);
        d.due("status isn't kept", x.status(0), 1);
    }

    private static void fewerAndMore() {
        TortoiseShelves x = new TortoiseShelves();
        x.image();
        Due.tipped(x, 3, 9);
        d.due("none then", x.undo(), 0);
        d.due("a new one", x.tortoise(Due.YOUNG, 4, 1), 0);
        d.due("not tipped by the old one", x.of(0, 3), 0);
        x.tortoise(Due.YOUNG, 5, 2);
        x.image();
        x.set(1, 2, 4);
        d.due("two then", x.undo(), 2);
        d.due("books of the second", x.of(1, 2), 2);
    }

    private static void count() {
        TortoiseShelves x = new TortoiseShelves();
        x.tortoise(0, 0, 0);
        Due.tipped(x, 0, 0);
        Due.tipped(x, 0, 0);
        x.feed(0, 4);
        x.fence(0, 1);
        x.fence(29, 1);
        x.fence(3, 1);
        d.due("count(0)", x.count(0), 3);
        d.due("count(1)", x.count(1), 4);
        d.due("count(2)", x.count(2), 3);
        d.due("count(3)", x.count(3), 2);
        d.due("count(4)", x.count(4), Due.BEYOND);
        d.due("count(-1)", x.count(-1), Due.BEYOND);
        for (int far : Due.FAR) {
            d.due("count(" + far + ")", x.count(far), Due.BEYOND);
        }
    }

    private static void status() {
        TortoiseShelves x = new TortoiseShelves();
        for (int i = 0; i < 8; i++) {
            x.tortoise(0, i, 0);
        }
        x.fence(30, 0); // BEYOND
        x.tortoise(0, 0, 0); // FULL, twice
        x.tortoise(0, 0, 0);
        for (int i = 0; i < 3; i++) {
            x.as(0, 1); // KIND
        }
        for (int i = 0; i < 4; i++) {
            x.undo(); // NONE
        }
        for (int i = 0; i < 5; i++) {
            x.lend(0, 1, 0); // STATE
        }
        for (int i = 0; i < 6; i++) {
            x.write(0, 0, 0); // MISSING
        }
        for (int i = 0; i < 7; i++) {
            x.sheet(0, 8, -1); // SIZE
        }
        for (int which = 0; which <= 6; which++) {
            d.due("status(" + which + ")", x.status(which), which + 1);
        }
        d.due("status(-1)", x.status(-1), 28);
        d.due("status(7)", x.status(7), Due.BEYOND);
        d.due("status(0), counted", x.status(0), 2);
        d.due("status(-2)", x.status(-2), Due.BEYOND);
        d.due("status(MIN)", x.status(Integer.MIN_VALUE), Due.BEYOND);
        d.due("status(MAX)", x.status(Integer.MAX_VALUE), Due.BEYOND);
        d.due("status(0), counted again", x.status(0), 5);
        d.due("status(-1), counted", x.status(-1), 32);
    }

    private static void statusStays() {
        TortoiseShelves x = new TortoiseShelves();
        x.image();
        x.fence(30, 0);
        x.undo();
        x.tear();
        x.undo();
        d.due("undo() takes none back", x.status(-1), 2);
        d.due("a fault of a text is none", Due.island(x, "x"), -1);
        d.due("still two", x.status(-1), 2);
    }
}
