import java.util.function.Supplier;

/** The bounds of promises 37 to 41, the findings of "Terms", and how many calls an object is used for. */
public final class BoundsImagesTest {
    private static final int CALLS = 512;
    private static final Due d = new Due();
    private static final Bounds b = new Bounds(d);
    private static final Supplier<TortoiseShelves> BUSY = Scene::busy;
    private static final Supplier<TortoiseShelves> TORN = Scene::torn;

    public static void main(String[] args) {
        image();
        undo();
        undoOfEmptyAndFull();
        tear();
        count();
        status();
        statusOfEach();
        findings();
        sheetsStay();
        calls();
        d.end();
    }

    /** It is kept as it is then; what comes later doesn't reach it. */
    private static void image() {
        b.taken("image()", BUSY, x -> x.image(), 1);
        b.taken("image(), with nothing kept", TORN, x -> x.image(), 1);
        TortoiseShelves x = Scene.busy();
        x.image();
        x.fence(0, 1);
        x.spot(0, 0);
        x.rain(0);
        x.set(2, 1, 5);
        x.set(2, 2, 5);
        x.set(2, 3, 1);
        x.turn(2, 5);
        x.hours(1);
        d.due("undo()", x.undo(), 6);
        TortoiseShelves y = Scene.busy();
        y.image();
        b.same("all is as it was kept", x, y);
    }

    private static void undo() {
        b.refused("nothing is kept", TORN, x -> x.undo(), Due.NONE);
        b.refused("nothing is kept in a new one", TortoiseShelves::new, x -> x.undo(), Due.NONE);
        b.taken("what was kept", BUSY, x -> x.undo(), 1);
        TortoiseShelves x = Scene.busy();
        for (int i = 0; i < 3; i++) {
            d.due("it stays: " + i, x.undo(), 1);
            d.due("hour: " + i, x.now(0), 2);
            d.due("fence: " + i, x.cell(20, 0), 1);
            d.due("spring: " + i, x.spot(0, 1), 9);
            d.due("books: " + i, x.of(0, 2), 96);
            d.due("cell: " + i, x.of(0, 1), 5);
            x.hours(7);
            x.fence(20, 0);
            x.set(0, 2, 1);
        }
        d.due("the tape isn't kept", x.count(1), Scene.BUSY_TEXT.length());
        d.due("a sheet isn't kept", x.write(1, 3, 0), 4000);
    }

    private static void undoOfEmptyAndFull() {
        TortoiseShelves x = new TortoiseShelves();
        x.image();
        for (int i = 0; i < 8; i++) {
            Due.tipped(x, i, 4095);
        }
        d.due("none of eight", x.undo(), 0);
        d.due("none", x.count(0), 0);
        d.due("no such one", x.of(0, 0), Due.BEYOND);
        d.due("no cell has one", x.now(5), 0);
        for (int i = 0; i < 8; i++) {
            d.due("place for " + i, x.tortoise(Due.CANON, 29 - i, 1 << i), i);
        }
        d.due("none is tipped", x.count(3), 0);
        x.image();
        d.due("a 9th", x.tortoise(0, 0, 0), Due.FULL);
        for (int i = 0; i < 8; i++) {
            x.set(i, 1, 3);
            x.set(i, 2, 0);
            x.turn(i, 0);
        }
        d.due("eight again", x.undo(), 8);
        for (int i = 0; i < 8; i++) {
            d.due("cell of " + i, x.of(i, 1), 29 - i);
            d.due("books of " + i, x.of(i, 2), 1 << i);
            d.due("kind of " + i, x.of(i, 0), Due.CANON);
        }
    }

    private static void tear() {
        b.quiet("nothing was kept", TORN, x -> x.tear(), 0);
        b.taken("something was", BUSY, x -> x.tear(), 1);
        TortoiseShelves x = Scene.busy();
        d.due("tear()", x.tear(), 1);
        b.same("nothing else has changed", x, Scene.torn());
        x = Scene.busy();
        x.image();
        x.image();
        d.due("tear() takes all", x.tear(), 1);
        d.due("nothing is left", x.tear(), 0);
        d.due("nothing to go back to", x.undo(), Due.NONE);
        d.due("no finding by tear()", x.status(-1), 1);
        d.due("as busy as before", x.count(0), 6);
    }

    private static void count() {
        b.range("count(_)", BUSY, (x, v) -> x.count(v), 0, 6, 3, 1);
        b.quiet("count(1)", BUSY, x -> x.count(1), Scene.BUSY_TEXT.length());
        b.quiet("count(2)", BUSY, x -> x.count(2), 2);
        Supplier<TortoiseShelves> most = () -> {
            TortoiseShelves x = new TortoiseShelves();
            for (int i = 0; i < 8; i++) {
                Due.tipped(x, i, 0);
            }
            for (int c = 0; c < 30; c++) {
                x.fence(c, 1);
            }
            for (int i = 0; i < 30; i++) {
                x.feed(0, 4);
            }
            return x;
        };
        int[] counts = {8, 120, 30, 8};
        for (int what = 0; what < 4; what++) {
            int w = what;
            b.quiet("at most: count(" + what + ")", most, x -> x.count(w), counts[what]);
            b.quiet("at first: count(" + what + ")", TortoiseShelves::new, x -> x.count(w), 0);
        }
    }

    private static void status() {
        b.range("status(_)", BUSY, (x, v) -> x.status(v), -1, 0, 6, 0);
        TortoiseShelves x = new TortoiseShelves();
        d.due("status(7)", x.status(7), Due.BEYOND);
        d.due("counted from then on", x.status(-1), 1);
        d.due("as BEYOND", x.status(0), 1);
        d.due("status(-2)", x.status(-2), Due.BEYOND);
        d.due("counted, too", x.status(-1), 2);
        for (int f = 1; f <= 6; f++) {
            d.due("no other one: " + f, x.status(f), 0);
        }
        d.due("asking isn't counted", x.status(-1), 2);
    }

    /** Each finding by itself, counted at its place and in all. */
    private static void statusOfEach() {
        for (int which = 0; which <= 6; which++) {
            TortoiseShelves x = Scene.fullHouse();
            x.tear();
            long[] answers = {x.fence(30, 0), x.tortoise(0, 0, 0), x.as(0, 1), x.undo(), x.lend(0, 2, 0), x.write(3, 0, 0),
                x.sheet(0, 8, -1)};
            d.due("finding " + which, answers[which], Due.BEYOND - which);
            d.due("status(" + which + ")", x.status(which), 1);
            d.due("all", x.status(-1), 7);
            again(x, which);
            d.due("status(" + which + "), again", x.status(which), 2);
            d.due("all, again", x.status(-1), 8);
            x.image();
            x.hours(1);
            x.undo();
            x.tear();
            d.due("status(" + which + ") isn't taken back", x.status(which), 2);
        }
    }

    private static void again(TortoiseShelves x, int which) {
        switch (which) {
            case 0:
                x.fence(30, 0);
                break;
            case 1:
                x.tortoise(0, 0, 0);
                break;
            case 2:
                x.as(0, 1);
                break;
            case 3:
                x.undo();
                break;
            case 4:
                x.lend(0, 2, 0);
                break;
            case 5:
                x.write(3, 0, 0);
                break;
            default:
                x.sheet(0, 8, -1);
                break;
        }
    }

    /** The numbers of "Terms", written out; in longs, too. */
    private static void findings() {
        TortoiseShelves x = Scene.fullHouse();
        x.tear();
        d.due("BEYOND", x.fence(30, 0), -1000000001L);
        d.due("FULL", x.tortoise(0, 0, 0), -1000000002L);
        d.due("KIND", x.as(0, 1), -1000000003L);
        d.due("NONE", x.undo(), -1000000004L);
        d.due("STATE", x.lend(0, 2, 0), -1000000005L);
        d.due("MISSING", x.lays(3), -1000000006L);
        d.due("SIZE", x.sheet(0, 8, -1), -1000000007L);
        d.due("BEYOND, in longs", x.write(0, 3, 0), -1000000001L);
        d.due("MISSING, in longs", x.write(3, 0, 0), -1000000006L);
    }

    private static void sheetsStay() {
        TortoiseShelves x = new TortoiseShelves();
        x.image();
        x.sheet(0, 8, 1);
        x.undo();
        d.due("a sheet stays behind undo()", x.write(0, 0, 4), 0);
        x.image();
        x.sheet(0, 0, 0);
        x.undo();
        d.due("a missing one stays so", x.write(0, 0, 4), Due.MISSING);
    }

    /** The 512th call is answered as the first one is. */
    private static void calls() {
        TortoiseShelves x = new TortoiseShelves();
        for (int i = 1; i < CALLS; i++) {
            d.due("call " + i, x.fence(30, 0), Due.BEYOND);
        }
        d.due("the 512th call", x.status(-1), CALLS - 1);
        x = Scene.commuter();
        for (int i = 4; i < CALLS; i++) {
            x.on(0, 72, 0);
        }
        d.due("the 512th call is one like the others", x.on(0, 21, 0), 18);
    }
}
