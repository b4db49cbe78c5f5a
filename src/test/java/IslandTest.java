/** Promises 1 to 5: a new object, fence, spot, rain, cell. */
public final class IslandTest {
    private static final Due d = new Due();

    public static void main(String[] args) {
        newObject();
        objectsApart();
        fence();
        spot();
        rain();
        cell();
        d.end();
    }

    private static void newObject() {
        TortoiseShelves x = new TortoiseShelves();
        for (int what = 0; what <= 5; what++) {
            d.due("new: now(" + what + ")", x.now(what), 0);
        }
        for (int what = 0; what <= 3; what++) {
            d.due("new: count(" + what + ")", x.count(what), 0);
        }
        for (int cell = 0; cell < 30; cell++) {
            for (int what = 0; what <= 2; what++) {
                d.due("new: cell(" + cell + ", " + what + ")", x.cell(cell, what), 0);
            }
        }
        d.due("new: status(-1)", x.status(-1), 0);
        d.due("new: wipe()", x.wipe(), 0);
        d.due("new: tear()", x.tear(), 0);
        d.due("new: of(0, 0)", x.of(0, 0), Due.BEYOND);
        d.due("new: undo()", x.undo(), Due.NONE);
        for (int s = 0; s < 4; s++) {
            d.due("new: lays(" + s + ")", x.lays(s), Due.MISSING);
        }
        d.due("new: spot(0, 1)", x.spot(0, 1), 14);
        d.due("new: spot(1, 1)", x.spot(1, 1), 3);
        d.due("new: spot(2, 1)", x.spot(2, 1), 24);
        d.due("new: rain(1)", x.rain(1), 0);
        d.due("new: island()", x.island(), -1);
    }

    private static void objectsApart() {
        TortoiseShelves x = new TortoiseShelves();
        TortoiseShelves y = new TortoiseShelves();
        x.fence(3, 1);
        x.spot(0, 5);
        x.tortoise(0, 0, 1);
        x.sheet(0, 8, 4);
        x.image();
        x.feed(97, 1);
        x.status(9);
        d.due("other object: cell(3, 0)", y.cell(3, 0), 0);
        d.due("other object: spot(0, 14)", y.spot(0, 14), 14);
        d.due("other object: count(0)", y.count(0), 0);
        d.due("other object: count(1)", y.count(1), 0);
        d.due("other object: status(-1)", y.status(-1), 0);
        d.due("other object: undo()", y.undo(), Due.NONE);
        d.due("other object: lays(0)", y.lays(0), Due.MISSING);
    }

    private static void fence() {
        TortoiseShelves x = new TortoiseShelves();
        for (int cell : new int[] {0, 17, 29}) {
            d.due("fence(" + cell + ", 0)", x.fence(cell, 0), 0);
            d.due("fence(" + cell + ", 1)", x.fence(cell, 1), 0);
            d.due("fence(" + cell + ", 1) again", x.fence(cell, 1), 1);
            d.due("fenced: cell(" + cell + ", 0)", x.cell(cell, 0), 1);
        }
        d.due("fenced: cell(16, 0)", x.cell(16, 0), 0);
        d.due("fenced: count(2)", x.count(2), 3);
        d.due("fence(17, 0)", x.fence(17, 0), 1);
        d.due("freed: cell(17, 0)", x.cell(17, 0), 0);
        d.due("fence(-1, 1)", x.fence(-1, 1), Due.BEYOND);
        d.due("fence(30, 1)", x.fence(30, 1), Due.BEYOND);
        d.due("fence(5, 2)", x.fence(5, 2), Due.BEYOND);
        d.due("fence(5, -1)", x.fence(5, -1), Due.BEYOND);
        for (int far : Due.FAR) {
            d.due("fence(" + far + ", 1)", x.fence(far, 1), Due.BEYOND);
            d.due("fence(5, " + far + ")", x.fence(5, far), Due.BEYOND);
        }
        d.due("fences stand: count(2)", x.count(2), 2);
    }

    private static void spot() {
        TortoiseShelves x = new TortoiseShelves();
        d.due("spot(0, 0)", x.spot(0, 0), 14);
        d.due("spot(1, 29)", x.spot(1, 29), 3);
        d.due("spot(2, 10)", x.spot(2, 10), 24);
        d.due("spot(0, 30)", x.spot(0, 30), Due.BEYOND);
        d.due("spot(0, -1)", x.spot(0, -1), Due.BEYOND);
        d.due("spot(3, 0)", x.spot(3, 0), Due.BEYOND);
        d.due("spot(-1, 0)", x.spot(-1, 0), Due.BEYOND);
        for (int far : Due.FAR) {
            d.due("spot(" + far + ", 1)", x.spot(far, 1), Due.BEYOND);
            d.due("spot(1, " + far + ")", x.spot(1, far), Due.BEYOND);
        }
        x.fence(7, 1);
        d.due("a fenced spring: spot(0, 7)", x.spot(0, 7), 0);
        d.due("spot(0, 8)", x.spot(0, 8), 7);
        d.due("spot(1, 8)", x.spot(1, 8), 29);
        d.due("spot(2, 8)", x.spot(2, 8), 10);
    }

    private static void rain() {
        TortoiseShelves x = new TortoiseShelves();
        d.due("rain(all)", x.rain((1 << 24) - 1), 0);
        d.due("raining: now(2)", x.now(2), 1);
        d.due("rain(2)", x.rain(2), (1 << 24) - 1);
        d.due("dry: now(2)", x.now(2), 0);
        d.due("rain(1 << 24)", x.rain(1 << 24), Due.BEYOND);
        d.due("rain(-1)", x.rain(-1), Due.BEYOND);
        d.due("rain(MIN)", x.rain(Integer.MIN_VALUE), Due.BEYOND);
        d.due("rain(MAX)", x.rain(Integer.MAX_VALUE), Due.BEYOND);
        d.due("rain(0)", x.rain(0), 2);
    }

    private static void cell() {
        TortoiseShelves x = new TortoiseShelves();
        x.tortoise(0, 4, 3);
        x.tortoise(1, 4, 6);
        x.tortoise(2, 5, 1 << 11);
        Due.tipped(x, 4, 64);
        d.due("cell(4, 1)", x.cell(4, 1), 1 | 2 | 8);
        d.due("cell(5, 1)", x.cell(5, 1), 4);
        d.due("cell(6, 1)", x.cell(6, 1), 0);
        d.due("cell(4, 2)", x.cell(4, 2), 3 | 6 | 64);
        d.due("cell(5, 2)", x.cell(5, 2), 1 << 11);
        d.due("cell(6, 2)", x.cell(6, 2), 0);
        d.due("cell(4, 3)", x.cell(4, 3), Due.BEYOND);
        d.due("cell(4, -1)", x.cell(4, -1), Due.BEYOND);
        d.due("cell(30, 0)", x.cell(30, 0), Due.BEYOND);
        d.due("cell(-1, 0)", x.cell(-1, 0), Due.BEYOND);
        for (int far : Due.FAR) {
            d.due("cell(" + far + ", 1)", x.cell(far, 1), Due.BEYOND);
            d.due("cell(1, " + far + ")", x.cell(1, far), Due.BEYOND);
        }
    }
}
