import java.util.function.Supplier;

/** The bounds of promises 1 to 11, and the cells of "Terms": each bound, its neighbours, what a refused call leaves. */
public final class BoundsIslandTest {
    private static final Due d = new Due();
    private static final Bounds b = new Bounds(d);
    private static final Supplier<TortoiseShelves> BUSY = Scene::busy;
    private static final Supplier<TortoiseShelves> FULL_HOUSE = Scene::fullHouse;
    private static final Supplier<TortoiseShelves> HERD = Scene::herd;

    public static void main(String[] args) {
        newObject();
        fence();
        everyFence();
        spot();
        rain();
        everyClock();
        cell();
        tortoise();
        eightAndNine();
        of();
        set();
        turn();
        as();
        lend();
        lendOrder();
        d.end();
    }

    /** Promise 1: what is empty or missing refuses at once, and that alone is counted. */
    private static void newObject() {
        Supplier<TortoiseShelves> fresh = TortoiseShelves::new;
        b.refused("new: of(0, 0)", fresh, x -> x.of(0, 0), Due.BEYOND);
        b.refused("new: set(0, 1, 0)", fresh, x -> x.set(0, 1, 0), Due.BEYOND);
        b.refused("new: turn(0, 0)", fresh, x -> x.turn(0, 0), Due.BEYOND);
        b.refused("new: as(0, 0)", fresh, x -> x.as(0, 0), Due.BEYOND);
        b.refused("new: lend(0, 1, 0)", fresh, x -> x.lend(0, 1, 0), Due.BEYOND);
        b.refused("new: on(0, 0, 0)", fresh, x -> x.on(0, 0, 0), Due.BEYOND);
        b.refused("new: when(0, 0)", fresh, x -> x.when(0, 0), Due.BEYOND);
        b.refused("new: meet(0, 1)", fresh, x -> x.meet(0, 1), Due.BEYOND);
        b.refused("new: kind(0, 0)", fresh, x -> x.kind(0, 0), Due.BEYOND);
        b.refused("new: undo()", fresh, x -> x.undo(), Due.NONE);
        b.quiet("new: carries(0, 72)", fresh, x -> x.carries(0, 72), 0);
        b.quiet("new: many(0, 48)", fresh, x -> x.many(0, 48), 0);
        b.quiet("new: wipe()", fresh, x -> x.wipe(), 0);
        b.quiet("new: tear()", fresh, x -> x.tear(), 0);
        b.quiet("new: island(), a fault at 0", fresh, x -> x.island(), -1);
        for (int s = 0; s < 4; s++) {
            int missing = s;
            b.refused("new: write to " + s, fresh, x -> x.write(missing, 0, 0), Due.MISSING);
            b.refused("new: lays(" + s + ")", fresh, x -> x.lays(missing), Due.MISSING);
        }
        taken("new: the first one", fresh, x -> x.tortoise(0, 0, 0), 0);
    }

    private static void taken(String name, Supplier<TortoiseShelves> scene, Bounds.Call call, long want) {
        b.taken(name, scene, call, want);
    }

    private static void fence() {
        b.range("fence(_, 1)", BUSY, (x, v) -> x.fence(v, 1), 0, 0, 29, 1);
        b.range("fence(_, 0)", BUSY, (x, v) -> x.fence(v, 0), 0, 0, 29, 1);
        b.range("fence(8, _)", BUSY, (x, v) -> x.fence(8, v), 0, 1, 1, 1);
        b.range("fence(9, _)", BUSY, (x, v) -> x.fence(9, v), 0, 0, 1, 0);
    }

    /** All thirty at once, none at first, and each one by itself. */
    private static void everyFence() {
        TortoiseShelves x = new TortoiseShelves();
        for (int c = 0; c < 30; c++) {
            d.due("fence(" + c + ", 1)", x.fence(c, 1), 0);
            d.due("fenced up to " + c, x.count(2), c + 1);
        }
        for (int c = 0; c < 30; c++) {
            d.due("fence(" + c + ", 0)", x.fence(c, 0), 1);
            d.due(c + " is free", x.cell(c, 0), 0);
            d.due("29 is fenced till then", x.cell(29, 0), c < 29 ? 1 : 0);
            d.due("fenced behind " + c, x.count(2), 29 - c);
        }
    }

    private static void spot() {
        b.range("spot(_, 9)", BUSY, (x, v) -> x.spot(v, 9), 0, 15, 2, 25);
        for (int what = 0; what < 3; what++) {
            int was = new int[] {15, 2, 25}[what];
            int w = what;
            b.range("spot(" + what + ", _)", BUSY, (x, v) -> x.spot(w, v), 0, was, 29, was);
        }
        TortoiseShelves x = new TortoiseShelves();
        int[] first = {14, 3, 24};
        for (int what = 0; what < 3; what++) {
            d.due("at first: spot(" + what + ", 29)", x.spot(what, 29), first[what]);
            d.due("from now on: spot(" + what + ", 0)", x.spot(what, 0), 29);
            d.due("and then: spot(" + what + ", 0)", x.spot(what, 0), 0);
        }
        taken("a spot may be fenced", BUSY, y -> y.spot(1, 8), 2);
    }

    private static void rain() {
        b.range("rain(_)", BUSY, (x, v) -> x.rain(v), 0, Scene.BUSY_RAIN, (1 << 24) - 1, Scene.BUSY_RAIN);
        b.refused("rain(24 alone)", BUSY, x -> x.rain(1 << 24), Due.BEYOND);
        b.refused("rain(0 to 24)", BUSY, x -> x.rain((1 << 25) - 1), Due.BEYOND);
        b.refused("rain(all 32)", BUSY, x -> x.rain(-1), Due.BEYOND);
        b.refused("rain(31 and 0)", BUSY, x -> x.rain(Integer.MIN_VALUE | 1), Due.BEYOND);
        taken("rain(23 alone)", BUSY, x -> x.rain(1 << 23), Scene.BUSY_RAIN);
    }

    /** It rains at a CLOCK and at no other, on the first day and on the next. */
    private static void everyClock() {
        for (int clock : new int[] {0, 1, 11, 22, 23}) {
            TortoiseShelves x = new TortoiseShelves();
            d.due("rain(" + clock + " alone)", x.rain(1 << clock), 0);
            for (int hour = 0; hour < 50; hour++) {
                d.due("rain at " + clock + ", now(1) at " + hour, x.now(1), hour % 24);
                d.due("rain at " + clock + ", now(2) at " + hour, x.now(2), hour % 24 == clock ? 1 : 0);
                x.hours(1);
            }
        }
    }

    private static void cell() {
        b.range("cell(_, 0)", BUSY, (x, v) -> x.cell(v, 0), 0, 0, 29, 1);
        b.range("cell(_, 1)", BUSY, (x, v) -> x.cell(v, 1), 0, 3, 29, 8);
        b.range("cell(_, 2)", BUSY, (x, v) -> x.cell(v, 2), 0, 7, 29, Due.bits(6));
        b.range("cell(0, _)", BUSY, (x, v) -> x.cell(0, v), 0, 0, 2, 7);
        b.quiet("cell(1, 1), none", BUSY, x -> x.cell(1, 1), 0);
        b.quiet("cell(1, 2), none", BUSY, x -> x.cell(1, 2), 0);
        TortoiseShelves x = new TortoiseShelves();
        for (int i = 0; i < 8; i++) {
            x.tortoise(0, 29, i == 7 ? 1 << 11 : 1 << i);
        }
        d.due("eight in one", x.cell(29, 1), 255);
        d.due("what they have", x.cell(29, 2), 127 | 1 << 11);
    }

    private static void tortoise() {
        b.range("tortoise(_, 3, 1)", BUSY, (x, v) -> x.tortoise(v, 3, 1), 0, 6, 5, 6);
        b.range("tortoise(0, _, 1)", BUSY, (x, v) -> x.tortoise(0, v, 1), 0, 6, 29, 6);
        b.range("tortoise(0, 3, _)", BUSY, (x, v) -> x.tortoise(0, 3, v), 0, 6, 4095, 6);
        b.refused("tortoise(0, 3, 12 alone)", BUSY, x -> x.tortoise(0, 3, 1 << 12), Due.BEYOND);
        b.refused("tortoise(0, 3, 12 and 0)", BUSY, x -> x.tortoise(0, 3, 1 << 12 | 1), Due.BEYOND);
        b.refused("tortoise(0, 3, 31 and 0)", BUSY, x -> x.tortoise(0, 3, Integer.MIN_VALUE | 1), Due.BEYOND);
        int[][] corners = {{0, 0, 0}, {5, 29, 4095}, {0, 29, 2048}, {5, 0, 1}};
        for (int[] c : corners) {
            TortoiseShelves x = new TortoiseShelves();
            d.due("one of kind " + c[0], x.tortoise(c[0], c[1], c[2]), 0);
            for (int what = 0; what < 3; what++) {
                d.due("of(0, " + what + ") of kind " + c[0], x.of(0, what), c[what]);
            }
            d.due("not tipped at first", x.of(0, 3), 0);
        }
    }

    private static void eightAndNine() {
        TortoiseShelves x = Scene.busy();
        d.due("the 7th", x.tortoise(0, 0, 0), 6);
        d.due("the 8th", x.tortoise(5, 29, 4095), 7);
        d.due("of the 8th", x.of(7, 2), 4095);
        d.due("of a 9th", x.of(8, 2), Due.BEYOND);
        b.refused("a 9th", FULL_HOUSE, y -> y.tortoise(0, 0, 0), Due.FULL);
        b.refused("a 9th, with all", FULL_HOUSE, y -> y.tortoise(5, 29, 4095), Due.FULL);
        b.refused("a 9th of a wrong kind", FULL_HOUSE, y -> y.tortoise(6, 0, 0), Due.BEYOND);
        b.refused("a 9th of a kind below", FULL_HOUSE, y -> y.tortoise(-1, 0, 0), Due.BEYOND);
        b.refused("a 9th in a wrong cell", FULL_HOUSE, y -> y.tortoise(0, 30, 0), Due.BEYOND);
        b.refused("a 9th in a cell below", FULL_HOUSE, y -> y.tortoise(0, -1, 0), Due.BEYOND);
        b.refused("a 9th with wrong books", FULL_HOUSE, y -> y.tortoise(0, 0, 4096), Due.BEYOND);
        b.refused("a 9th with books below", FULL_HOUSE, y -> y.tortoise(0, 0, -1), Due.BEYOND);
        b.range("of(_, 2) of eight", FULL_HOUSE, (y, v) -> y.of(v, 2), 0, 3, 7, Due.bits(8, 9));
    }

    private static void of() {
        b.range("of(_, 1)", BUSY, (x, v) -> x.of(v, 1), 0, 0, 5, 7);
        b.range("of(_, 2)", BUSY, (x, v) -> x.of(v, 2), 0, 3, 5, Due.bits(10));
        b.range("of(2, _)", BUSY, (x, v) -> x.of(2, v), 0, Due.LAW, 5, 1);
        b.range("of(4, _)", BUSY, (x, v) -> x.of(4, v), 0, Due.PAMPHLET, 5, 3);
        b.quiet("of(5, 3)", BUSY, x -> x.of(5, 3), 1);
        b.quiet("of(4, 3)", BUSY, x -> x.of(4, 3), 0);
        b.quiet("of(5, 4), in the rain", BUSY, x -> x.of(5, 4), 25);
        b.quiet("of(3, 4), in the rain", BUSY, x -> x.of(3, 4), 15);
        b.quiet("of(3, 5), at an odd clock", BUSY, x -> x.of(3, 5), 0);
    }

    private static void set() {
        b.range("set(_, 1, 4)", BUSY, (x, v) -> x.set(v, 1, 4), 0, 0, 5, 7);
        b.range("set(_, 2, 4)", BUSY, (x, v) -> x.set(v, 2, 4), 0, 3, 5, Due.bits(10));
        b.range("set(_, 3, 0)", BUSY, (x, v) -> x.set(v, 3, 0), 0, 0, 5, 1);
        b.range("set(2, _, 1)", BUSY, (x, v) -> x.set(2, v, 1), 1, 12, 3, 0);
        b.range("set(2, 1, _)", BUSY, (x, v) -> x.set(2, 1, v), 0, 12, 29, 12);
        b.range("set(2, 2, _)", BUSY, (x, v) -> x.set(2, 2, v), 0, Due.bits(3, 4, 5), 4095, Due.bits(3, 4, 5));
        b.range("set(5, 3, _)", BUSY, (x, v) -> x.set(5, 3, v), 0, 1, 1, 1);
        b.range("set(4, 3, _)", BUSY, (x, v) -> x.set(4, 3, v), 0, 0, 1, 0);
        b.refused("a kind isn't set", BUSY, x -> x.set(2, 0, 2), Due.BEYOND);
        b.refused("an aim isn't set", BUSY, x -> x.set(2, 4, 2), Due.BEYOND);
        int[][] rows = {{1, 0}, {1, 29}, {2, 0}, {2, 4095}, {3, 1}, {3, 0}};
        TortoiseShelves x = Scene.busy();
        for (int[] row : rows) {
            x.set(2, row[0], row[1]);
            d.due("set(2, " + row[0] + ", " + row[1] + ") stands", x.of(2, row[0]), row[1]);
        }
        taken("into a fence", BUSY, y -> y.set(2, 1, 8), 12);
    }

    private static void turn() {
        b.range("turn(_, 4)", BUSY, (x, v) -> x.turn(v, 4), 0, Due.TORTOISE, 5, Due.CANON);
        b.range("turn(3, _)", BUSY, (x, v) -> x.turn(3, v), 0, Due.OLD, 5, Due.OLD);
        for (int kind = 0; kind < 6; kind++) {
            TortoiseShelves x = Scene.busy();
            d.due("turn(4, " + kind + ")", x.turn(4, kind), Due.PAMPHLET);
            d.due("turned to " + kind, x.of(4, 0), kind);
            d.due("its cell stays", x.of(4, 1), 24);
            d.due("its books stay", x.of(4, 2), Due.bits(11));
            d.due("the next one stays", x.of(5, 0), Due.CANON);
        }
        TortoiseShelves x = Scene.busy();
        x.turn(5, 0);
        d.due("tipped it stays", x.of(5, 3), 1);
    }

    private static void as() {
        b.range("as(_, 0)", BUSY, (x, v) -> x.as(v, 0), 0, 3, 5, Due.bits(10));
        b.range("as(5, _)", BUSY, (x, v) -> x.as(5, v), 0, Due.bits(10), 5, Due.bits(10));
        b.range("as(0, _)", BUSY, (x, v) -> x.as(0, v), 0, 3, 5, Due.KIND);
        b.refused("a tortoise isn't a young one", BUSY, x -> x.as(0, Due.YOUNG), Due.KIND);
        b.refused("a young one isn't a pamphlet", BUSY, x -> x.as(1, Due.PAMPHLET), Due.KIND);
        b.refused("a law isn't a canon", BUSY, x -> x.as(2, Due.CANON), Due.KIND);
        b.refused("a law isn't an old one", BUSY, x -> x.as(2, Due.OLD), Due.KIND);
        b.refused("a pamphlet isn't a law", BUSY, x -> x.as(4, Due.LAW), Due.KIND);
        b.refused("a canon isn't a young one", BUSY, x -> x.as(5, Due.YOUNG), Due.KIND);
        b.refused("no such one, and no such kind", BUSY, x -> x.as(6, 6), Due.BEYOND);
        b.quiet("a pamphlet as a young one", BUSY, x -> x.as(4, Due.YOUNG), Due.bits(11));
        b.quiet("a canon as a law", BUSY, x -> x.as(5, Due.LAW), Due.bits(10));
    }

    private static void lend() {
        b.range("lend(_, 3, 0)", HERD, (x, v) -> x.lend(v, 3, 0), 0, 1, 5, 1);
        b.range("lend(3, _, 1)", HERD, (x, v) -> x.lend(3, v, 1), 0, 1, 5, 1);
        b.range("lend(0, 3, _)", HERD, (x, v) -> x.lend(0, 3, v), 0, 1, 11, 1);
        TortoiseShelves x = Scene.herd();
        x.lend(0, 3, 11);
        d.due("it has gone", x.of(0, 2), Due.bits(0));
        d.due("it has come", x.of(3, 2), Due.bits(1, 11));
        d.due("the third one has what it had", x.of(5, 2), Due.bits(0, 11));
        x.set(1, 3, 1);
        d.due("to a tipped one", x.lend(0, 1, 0), 1);
        d.due("of a tipped one", x.lend(1, 0, 0), 1);
        d.due("all are there", x.now(3), 5);
    }

    private static void lendOrder() {
        for (int i = 0; i < 6; i++) {
            int one = i;
            b.refused("one and the same: " + i, BUSY, x -> x.lend(one, one, 0), Due.BEYOND);
        }
        b.refused("one and the same, none such", BUSY, x -> x.lend(6, 6, 0), Due.BEYOND);
        b.refused("no such subject, apart", BUSY, x -> x.lend(0, 2, 12), Due.BEYOND);
        b.refused("no such subject below, apart", BUSY, x -> x.lend(0, 2, -1), Due.BEYOND);
        b.refused("no such other one, it hasn't that", BUSY, x -> x.lend(0, 6, 7), Due.BEYOND);
        b.refused("apart, it has it", BUSY, x -> x.lend(0, 2, 0), Due.STATE);
        b.refused("apart, it hasn't that", BUSY, x -> x.lend(0, 2, 7), Due.STATE);
        b.refused("apart, the other one has it", BUSY, x -> x.lend(0, 2, 3), Due.STATE);
        b.refused("together, it hasn't that", BUSY, x -> x.lend(0, 1, 7), Due.NONE);
        b.refused("together, the other one has it", HERD, x -> x.lend(0, 5, 0), Due.NONE);
        b.refused("together, the other one alone has it", BUSY, x -> x.lend(0, 1, 2), Due.NONE);
        taken("together, it has it", BUSY, x -> x.lend(0, 1, 0), 1);
    }
}
