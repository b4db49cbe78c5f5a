import java.util.function.Supplier;

/** The bounds of promises 12 to 17, and those of AIM, PACE and AN HOUR in "Terms". */
public final class BoundsHoursTest {
    private static final Due d = new Due();
    private static final Bounds b = new Bounds(d);
    private static final Supplier<TortoiseShelves> BUSY = Scene::busy;
    private static final Supplier<TortoiseShelves> HERD = Scene::herd;
    private static final Supplier<TortoiseShelves> COMMUTER = Scene::commuter;
    private static final Supplier<TortoiseShelves> AT_0 = () -> Scene.daily(0);
    private static final Supplier<TortoiseShelves> AT_1 = () -> Scene.daily(1);
    private static final Supplier<TortoiseShelves> AT_9999 = () -> Scene.late(9999);
    private static final Supplier<TortoiseShelves> AT_9998 = () -> Scene.late(9998);
    private static final Supplier<TortoiseShelves> AT_9927 = BoundsHoursTest::at9927;

    public static void main(String[] args) {
        hours();
        lastHour();
        aheadOfTheLastHour();
        now();
        clockTurns();
        on();
        when();
        meet();
        carries();
        aims();
        paces();
        everyWay();
        fencesNextToIt();
        howManyBooks();
        leastSubject();
        eightMeet();
        d.end();
    }

    private static TortoiseShelves at9927() {
        TortoiseShelves x = new TortoiseShelves();
        x.tortoise(Due.OLD, 2, 3);
        for (int i = 0; i < 137; i++) {
            x.hours(72);
        }
        x.hours(63);
        return x;
    }

    private static void hours() {
        b.range("hours(_)", BUSY, (x, v) -> x.hours(v), 1, 9, 72, 9);
        for (int n : new int[] {1, 2, 71, 72}) {
            TortoiseShelves x = Scene.busy();
            x.hours(n);
            d.due("hours(" + n + "): HOUR", x.now(0), 5 + n);
        }
        TortoiseShelves x = Scene.daily(1);
        x.hours(71);
        d.due("71 hours", x.of(0, 1), 12);
        x = Scene.daily(1);
        x.hours(72);
        d.due("72 hours", x.of(0, 1), 13);
        b.taken("no tortoises, no books", TortoiseShelves::new, y -> y.hours(72), 0);
    }

    private static void lastHour() {
        b.taken("9998: hours(1)", AT_9998, x -> x.hours(1), 3);
        b.refused("9998: hours(2)", AT_9998, x -> x.hours(2), Due.STATE);
        b.refused("9998: hours(72)", AT_9998, x -> x.hours(72), Due.STATE);
        b.refused("9998: hours(73)", AT_9998, x -> x.hours(73), Due.BEYOND);
        b.refused("9998: hours(0)", AT_9998, x -> x.hours(0), Due.BEYOND);
        b.refused("9999: hours(1)", AT_9999, x -> x.hours(1), Due.STATE);
        b.refused("9999: hours(72)", AT_9999, x -> x.hours(72), Due.STATE);
        b.refused("9999: hours(0)", AT_9999, x -> x.hours(0), Due.BEYOND);
        b.refused("9999: hours(73)", AT_9999, x -> x.hours(73), Due.BEYOND);
        b.refused("9999: hours(MAX)", AT_9999, x -> x.hours(Integer.MAX_VALUE), Due.BEYOND);
        b.refused("9999: hours(MIN)", AT_9999, x -> x.hours(Integer.MIN_VALUE), Due.BEYOND);
        b.refused("9999: hours(-1)", AT_9999, x -> x.hours(-1), Due.BEYOND);
        b.taken("9999: now(0)", AT_9999, x -> x.now(0), 9999);
        b.taken("9999: now(1)", AT_9999, x -> x.now(1), 15);
        b.taken("9927: now(0)", AT_9927, x -> x.now(0), 9927);
        b.taken("9927: hours(72)", AT_9927, x -> x.hours(72), 2);
        b.taken("9927: the last one", AT_9927, x -> x.hours(72) + x.now(0), 2 + 9999);
        TortoiseShelves x = Scene.late(9936);
        d.due("9936: hours(64)", x.hours(64), Due.STATE);
        d.due("9936: hours(63)", x.hours(63), 3);
        d.due("9936 and 63", x.now(0), 9999);
    }

    /** What is asked ON isn't bound by the last HOUR. */
    private static void aheadOfTheLastHour() {
        b.quiet("9999: on(0, 0, 0)", AT_9999, x -> x.on(0, 0, 0), 3);
        b.quiet("9999: on(0, 1, 0), still noon", AT_9999, x -> x.on(0, 1, 0), 3);
        b.quiet("9999: on(0, 2, 0)", AT_9999, x -> x.on(0, 2, 0), 9);
        b.quiet("9999: on(0, 72, 0)", AT_9999, x -> x.on(0, 72, 0), 3);
        b.quiet("9999: when(0, 14)", AT_9999, x -> x.when(0, 14), 4);
        b.quiet("9999: carries(3, 72)", AT_9999, x -> x.carries(3, 72), 2);
        b.refused("9999: meet(0, 1)", AT_9999, x -> x.meet(0, 1), Due.NONE);
        b.refused("9999: on(0, 73, 0)", AT_9999, x -> x.on(0, 73, 0), Due.BEYOND);
        b.quiet("9999: soonest(29, 0)", AT_9999, x -> x.soonest(29, 0), 5);
        b.quiet("9999: waits(14, 0)", AT_9999, x -> x.waits(14, 0), 4);
    }

    private static void now() {
        b.range("now(_)", BUSY, (x, v) -> x.now(v), 0, 5, 5, Due.bits(0, 7, 12, 24, 29));
        b.quiet("now(1)", BUSY, x -> x.now(1), 5);
        b.quiet("now(2)", BUSY, x -> x.now(2), 1);
        b.quiet("now(3)", BUSY, x -> x.now(3), 9);
        b.quiet("now(4)", BUSY, x -> x.now(4), Due.bits(0, 1, 2, 3, 4, 5, 6, 10, 11));
        TortoiseShelves x = new TortoiseShelves();
        for (int i = 0; i < 8; i++) {
            x.tortoise(0, i == 0 ? 0 : 22 + i, 4095);
        }
        d.due("as many books as there may be", x.now(3), 96);
        d.due("all subjects", x.now(4), 4095);
        d.due("the first and the last cell", x.now(5), Due.bits(0, 23, 24, 25, 26, 27, 28, 29));
        d.due("all of them go on", x.hours(72), 96);
    }

    /** The CLOCK is the rest by 24; the rain of 23 and that of 0 follow each other. */
    private static void clockTurns() {
        TortoiseShelves x = new TortoiseShelves();
        x.rain(Due.bits(0, 23));
        int[][] rows = {{22, 22, 0}, {23, 23, 1}, {24, 0, 1}, {25, 1, 0}, {46, 22, 0}, {47, 23, 1}, {48, 0, 1}, {49, 1, 0}};
        int hour = 0;
        for (int[] row : rows) {
            x.hours(row[0] - hour);
            hour = row[0];
            d.due("hour " + hour, x.now(0), hour);
            d.due("clock at " + hour, x.now(1), row[1]);
            d.due("rain at " + hour, x.now(2), row[2]);
        }
    }

    private static void on() {
        b.range("on(_, 0, 0)", BUSY, (x, v) -> x.on(v, 0, 0), 0, 0, 5, 7);
        b.range("on(_, 0, 1)", BUSY, (x, v) -> x.on(v, 0, 1), 0, 3, 5, Due.bits(10));
        b.range("on(0, _, 0)", AT_1, (x, v) -> x.on(0, v, 0), 0, 0, 72, 13);
        b.range("on(2, 0, _)", BUSY, (x, v) -> x.on(2, 0, v), 0, 12, 1, Due.bits(3, 4, 5));
        b.quiet("on(0, 71, 0)", AT_1, x -> x.on(0, 71, 0), 12);
        b.quiet("on(0, 72, 0)", AT_1, x -> x.on(0, 72, 0), 13);
        b.quiet("on(0, 1, 0) of busy", BUSY, x -> x.on(0, 1, 0), 6);
        // 0, TORTOISE, takes no book, as 1 has no more than it
        b.quiet("on(0, 1, 1) of busy", BUSY, x -> x.on(0, 1, 1), 3);
    }

    private static void when() {
        b.range("when(_, 9)", HERD, (x, v) -> x.when(v, 9), 0, 0, 5, 0);
        b.range("when(0, _)", COMMUTER, (x, v) -> x.when(0, v), 0, 0, 29, 23);
        b.quiet("in the first hour", AT_0, x -> x.when(0, 6), 1);
        b.quiet("in the 25th hour", AT_0, x -> x.when(0, 12), 25);
        b.quiet("in the 49th hour", AT_0, x -> x.when(0, 13), 49);
        b.refused("in the 73rd hour", AT_0, x -> x.when(0, 14), Due.NONE);
        b.quiet("in the 72nd hour", AT_1, x -> x.when(0, 13), 72);
        b.refused("in the 96th hour", AT_1, x -> x.when(0, 14), Due.NONE);
        b.refused("never", AT_1, x -> x.when(0, 29), Due.NONE);
        b.quiet("first, not latest", COMMUTER, x -> x.when(0, 0), 0);
        b.quiet("a tipped one, there", BUSY, x -> x.when(5, 7), 0);
        b.refused("a tipped one, elsewhere", BUSY, x -> x.when(5, 15), Due.NONE);
    }

    /** A tipped one waits in a cell of the daily walker's way. */
    private static Supplier<TortoiseShelves> waiting(int hour, int cell) {
        return () -> {
            TortoiseShelves x = Scene.daily(hour);
            Due.tipped(x, cell, 0);
            return x;
        };
    }

    private static void meet() {
        b.range("meet(_, 3)", HERD, (x, v) -> x.meet(v, 3), 0, 0, 5, 0);
        b.range("meet(3, _)", HERD, (x, v) -> x.meet(3, v), 0, 0, 5, 0);
        for (int i = 0; i < 6; i++) {
            int one = i;
            b.refused("one and the same: " + i, HERD, x -> x.meet(one, one), Due.BEYOND);
        }
        b.refused("one and the same, none such", HERD, x -> x.meet(6, 6), Due.BEYOND);
        b.quiet("at once", waiting(0, 0), x -> x.meet(0, 1), 0);
        b.quiet("in the first hour", waiting(0, 6), x -> x.meet(0, 1), 1);
        b.quiet("in the 49th hour", waiting(0, 13), x -> x.meet(0, 1), 49);
        b.quiet("in the 72nd hour", waiting(1, 13), x -> x.meet(0, 1), 72);
        b.quiet("in the 72nd hour, the other way round", waiting(1, 13), x -> x.meet(1, 0), 72);
        b.refused("in the 73rd hour", waiting(0, 14), x -> x.meet(0, 1), Due.NONE);
        b.refused("in the 73rd hour, the other way round", waiting(0, 14), x -> x.meet(1, 0), Due.NONE);
        b.refused("never", waiting(0, 29), x -> x.meet(0, 1), Due.NONE);
    }

    /** A tipped one with the lesser number waits in 13; it gets SUBJECT 0 as they meet there. */
    private static TortoiseShelves gives(int hour) {
        TortoiseShelves x = new TortoiseShelves();
        if (hour > 0) {
            x.hours(hour);
        }
        x.rain(1);
        Due.tipped(x, 13, 0);
        x.tortoise(Due.OLD, 0, Due.bits(0, 1));
        return x;
    }

    private static void carries() {
        Supplier<TortoiseShelves> giver = () -> gives(1);
        b.range("carries(_, 0)", BUSY, (x, v) -> x.carries(v, 0), 0, 1, 11, 16);
        b.range("carries(0, _)", giver, (x, v) -> x.carries(0, v), 0, 2, 72, 1);
        b.quiet("carries(0, 71)", giver, x -> x.carries(0, 71), 2);
        b.quiet("carries(1, 72)", giver, x -> x.carries(1, 72), 2);
        b.quiet("on(0, 71, 1)", giver, x -> x.on(0, 71, 1), 0);
        b.quiet("on(0, 72, 1)", giver, x -> x.on(0, 72, 1), 1);
        b.quiet("on(1, 72, 1)", giver, x -> x.on(1, 72, 1), 2);
        b.quiet("nobody has it", BUSY, x -> x.carries(9, 72), 0);
        TortoiseShelves x = new TortoiseShelves();
        for (int i = 0; i < 8; i++) {
            x.tortoise(i % 6, 4 * i, 1 << 11);
        }
        d.due("all eight", x.carries(11, 72), 255);
        d.due("none of another", x.carries(10, 72), 0);
    }

    private static TortoiseShelves kindAt(int kind, int hour) {
        TortoiseShelves x = new TortoiseShelves();
        x.spot(0, 20);
        x.spot(1, 21);
        x.spot(2, 22);
        if (hour > 0) {
            x.hours(hour);
        }
        x.tortoise(kind, 9, 0);
        return x;
    }

    private static void aim(int kind, int hour, int dry, int wet) {
        TortoiseShelves x = kindAt(kind, hour);
        d.due("dry aim of kind " + kind + " at " + hour, x.of(0, 4), dry);
        x.rain(((1 << 24) - 1) ^ 1 << hour % 24);
        d.due("aim of kind " + kind + " at " + hour + ", with rain at all other hours", x.of(0, 4), dry);
        x.rain(1 << hour % 24);
        d.due("wet aim of kind " + kind + " at " + hour, x.of(0, 4), wet);
    }

    /** The last CLOCK ahead of each change of AIM, and the first one behind it. */
    private static void aims() {
        for (int day = 0; day < 48; day += 24) {
            for (int clock : new int[] {0, 9, 16, 19, 20, 23}) {
                aim(Due.LAW, day + clock, 20, 20);
                aim(Due.CANON, day + clock, 20, 22);
            }
            for (int clock : new int[] {10, 12, 15}) {
                aim(Due.LAW, day + clock, 21, 21);
                aim(Due.CANON, day + clock, 21, 22);
            }
            for (int clock : new int[] {0, 1, 10, 15, 19}) {
                aim(Due.PAMPHLET, day + clock, 20, 20);
            }
            for (int clock : new int[] {20, 21, 23}) {
                aim(Due.PAMPHLET, day + clock, 22, 22);
            }
            for (int clock : new int[] {0, 9, 10, 15, 16, 19, 20, 23}) {
                aim(Due.TORTOISE, day + clock, 20, 20);
                aim(Due.YOUNG, day + clock, 20, 20);
                aim(Due.OLD, day + clock, 9, 20);
            }
        }
    }

    /** How many steps each goes in an hour, towards a spring four rows away or next to it. */
    private static void paces() {
        int[] most = {1, 2, 1, 1, 3, 1};
        for (int kind = 0; kind < 6; kind++) {
            for (int hour : new int[] {0, 1, 2, 23, 24, 25}) {
                String name = "kind " + kind + " at " + hour;
                int pace = kind == Due.OLD && hour % 2 == 1 ? 0 : most[kind];
                boolean atAim = kind == Due.CANON || kind == Due.PAMPHLET && hour == 23;
                d.due("pace of " + name, walker(kind, hour, 26).of(0, 5), pace);
                int steps = atAim ? 0 : pace;
                d.due(name + ", far", walker(kind, hour, 26).on(0, 1, 0), 2 + 6 * steps);
                d.due(name + ", no further than its aim", walker(kind, hour, 8).on(0, 1, 0), 2 + 6 * Math.min(steps, 1));
            }
        }
    }

    /** In 2, where the beach and the shade are, too, in the rain. */
    private static TortoiseShelves walker(int kind, int hour, int spring) {
        TortoiseShelves x = new TortoiseShelves();
        x.spot(0, spring);
        x.spot(1, 2);
        x.spot(2, 2);
        if (hour > 0) {
            x.hours(hour);
        }
        x.rain((1 << 24) - 1);
        x.tortoise(kind, 2, 0);
        return x;
    }

    /** From each cell to each: rows first, then columns, and never over an edge. */
    private static void everyWay() {
        for (int from = 0; from < 30; from++) {
            for (int to = 0; to < 30; to++) {
                TortoiseShelves x = new TortoiseShelves();
                x.spot(0, to);
                x.tortoise(Due.TORTOISE, from, 0);
                int rows = Math.abs(from / 6 - to / 6);
                int columns = Math.abs(from % 6 - to % 6);
                String name = "from " + from + " to " + to;
                d.due(name + ": hours", x.when(0, to), rows + columns);
                d.due(name + ": the corner", x.when(0, to / 6 * 6 + from % 6), rows);
                d.due(name + ": it stays", x.on(0, 72, 0), to);
            }
        }
    }

    private static void way(String name, int from, int to, int[] fences, int... cells) {
        TortoiseShelves x = new TortoiseShelves();
        x.spot(0, to);
        x.tortoise(Due.TORTOISE, from, 0);
        for (int c : fences) {
            x.fence(c, 1);
        }
        for (int h = 0; h < cells.length; h++) {
            d.due(name + ", on " + h, x.on(0, h, 0), cells[h]);
        }
    }

    private static void fencesNextToIt() {
        way("up, left, to the first cell", 29, 0, new int[] {}, 29, 23, 17, 11, 5, 4, 3, 2, 1, 0, 0);
        way("down, right, to the last cell", 0, 29, new int[] {}, 0, 6, 12, 18, 24, 25, 26, 27, 28, 29, 29);
        way("a fence above", 29, 0, new int[] {23}, 29, 28, 22, 16, 10, 4, 3, 2, 1, 0, 0);
        way("a fence below", 0, 29, new int[] {6}, 0, 1, 7, 13, 19, 25, 26, 27, 28, 29, 29);
        way("a fence above and one left", 29, 0, new int[] {23, 28}, 29, 29, 29);
        way("a fence below and one right", 0, 29, new int[] {6, 1}, 0, 0, 0);
        way("its row is that of the aim, a fence left", 5, 0, new int[] {4}, 5, 5, 5);
        way("its row is that of the aim, a fence right", 24, 29, new int[] {25}, 24, 24, 24);
        way("its column is that of the aim, a fence above", 24, 0, new int[] {18}, 24, 24, 24);
        way("its column is that of the aim, a fence below", 5, 29, new int[] {11}, 5, 5, 5);
        way("at its aim, which is fenced", 14, 14, new int[] {14}, 14, 14, 14);
        way("next to its aim, which is fenced", 13, 14, new int[] {14}, 13, 13, 13);
        way("out of a fenced cell, and not back", 8, 14, new int[] {8}, 8, 14, 14);
    }

    private static void meets(String name, int lesser, int other, int lesserThen, int otherThen) {
        TortoiseShelves x = new TortoiseShelves();
        Due.tipped(x, 9, lesser);
        Due.tipped(x, 9, other);
        x.hours(1);
        d.due(name + ": the lesser one", x.of(0, 2), lesserThen);
        d.due(name + ": the other one", x.of(1, 2), otherThen);
    }

    private static void howManyBooks() {
        meets("none and none", 0, 0, 0, 0);
        meets("none and one", 0, 1 << 11, 1 << 11, 0);
        meets("one and none", 1, 0, 1, 0);
        meets("one and one", 1, 2, 1, 2);
        meets("two and three", 3, 28, 7, 24);
        meets("three and three", 7, 56, 7, 56);
        meets("three and two", 7, 24, 7, 24);
        meets("eleven and all", 4095 ^ 64, 4095, 4095, 4095 ^ 64);
        meets("all and all", 4095, 4095, 4095, 4095);
        meets("none and all", 0, 4095, 1, 4094);
    }

    private static void leastSubject() {
        meets("0 is the least", 0, Due.bits(0, 11), Due.bits(0), Due.bits(11));
        meets("the least that it hasn't", Due.bits(0), Due.bits(0, 1, 11), Due.bits(0, 1), Due.bits(0, 11));
        meets("11 is left", Due.bits(0, 1), Due.bits(0, 1, 11), Due.bits(0, 1, 11), Due.bits(0, 1));
        meets("not what it alone has", Due.bits(5), Due.bits(7, 9), Due.bits(5, 7), Due.bits(9));
    }

    /** The last of eight gives one to each of the others, by their numbers, in one hour. */
    private static void eightMeet() {
        TortoiseShelves x = new TortoiseShelves();
        for (int i = 0; i < 8; i++) {
            Due.tipped(x, 29, i == 7 ? 255 : 0);
        }
        d.due("all are there", x.hours(1), 8);
        for (int i = 0; i < 8; i++) {
            d.due("books of " + i, x.of(i, 2), 1 << i);
        }
        d.due("nothing more goes", x.hours(1), 8);
        for (int i = 0; i < 8; i++) {
            d.due("books of " + i + ", later", x.of(i, 2), 1 << i);
        }
    }
}
