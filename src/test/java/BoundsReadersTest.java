import java.util.function.Supplier;

/** The bounds of promises 18 to 27, and those of a READER in "Terms". */
public final class BoundsReadersTest {
    private static final Due d = new Due();
    private static final Bounds b = new Bounds(d);
    private static final Supplier<TortoiseShelves> STILL = Scene::still;
    private static final Supplier<TortoiseShelves> FENCED = Scene::stillAndFenced;
    private static final Supplier<TortoiseShelves> RUNNER = Scene::runner;
    private static final Supplier<TortoiseShelves> COMMUTER = Scene::commuter;
    private static final Supplier<TortoiseShelves> HERD = Scene::herd;

    public static void main(String[] args) {
        soonestAndWhere();
        waits();
        waterhole();
        many();
        both();
        censors();
        tips();
        tipsSooner();
        spring();
        springFenced();
        kind();
        kindWithin72();
        everyWalk();
        lastOf48();
        oneCell();
        noCell();
        longWay();
        d.end();
    }

    private static void soonestAndWhere() {
        b.range("soonest(_, 5)", STILL, (x, v) -> x.soonest(v, 5), 0, 0, 29, 0);
        b.range("soonest(14, _)", STILL, (x, v) -> x.soonest(14, v), 0, 4, 11, 5);
        b.refused("soonest: fenced", FENCED, x -> x.soonest(9, 0), Due.STATE);
        b.refused("soonest: fenced, nobody has it", FENCED, x -> x.soonest(9, 7), Due.STATE);
        b.refused("soonest: fenced, no such subject", FENCED, x -> x.soonest(9, 12), Due.BEYOND);
        b.refused("soonest: nobody has it", FENCED, x -> x.soonest(14, 7), Due.NONE);
        b.quiet("soonest: next to the fence", FENCED, x -> x.soonest(8, 0), 3);

        b.range("where(_, 5)", STILL, (x, v) -> x.where(v, 5), 0, 0, 29, 29);
        b.range("where(14, _)", STILL, (x, v) -> x.where(14, v), 0, 0, 11, 29);
        b.refused("where: fenced", FENCED, x -> x.where(9, 0), Due.STATE);
        b.refused("where: fenced, nobody has it", FENCED, x -> x.where(9, 7), Due.STATE);
        b.refused("where: fenced, no such subject", FENCED, x -> x.where(9, 12), Due.BEYOND);
        b.refused("where: nobody has it", FENCED, x -> x.where(14, 7), Due.NONE);
        b.quiet("where: next to the fence", FENCED, x -> x.where(8, 0), 0);
    }

    private static void waits() {
        b.range("waits(_, 5)", STILL, (x, v) -> x.waits(v, 5), 0, 0, 29, 0);
        b.range("waits(29, _)", STILL, (x, v) -> x.waits(29, v), 0, Due.NONE, 11, 0);
        b.refused("waits: fenced", FENCED, x -> x.waits(9, 0), Due.STATE);
        b.refused("waits: fenced, nobody has it", FENCED, x -> x.waits(9, 7), Due.STATE);
        b.refused("waits: fenced, no such subject", FENCED, x -> x.waits(9, 12), Due.BEYOND);
        b.refused("waits: next to it", STILL, x -> x.waits(1, 0), Due.NONE);
        b.refused("waits: nobody has it", STILL, x -> x.waits(0, 7), Due.NONE);
        Supplier<TortoiseShelves> inAFence = () -> fenced(Scene.still(), 0);
        b.refused("waits: with it in a fence", inAFence, x -> x.waits(0, 0), Due.STATE);
        Supplier<TortoiseShelves> day0 = () -> Scene.daily(0);
        Supplier<TortoiseShelves> day1 = () -> Scene.daily(1);
        Supplier<TortoiseShelves> day2 = () -> Scene.daily(2);
        b.quiet("waits: in the 47th hour", day2, x -> x.waits(12, 0), 47);
        b.quiet("waits: in the 48th hour", day1, x -> x.waits(12, 0), 48);
        b.refused("waits: in the 49th hour", day0, x -> x.waits(13, 0), Due.NONE);
        b.refused("waits: in the 72nd hour", day1, x -> x.waits(13, 0), Due.NONE);
        b.quiet("waits: in the first hour", day0, x -> x.waits(6, 0), 1);
    }

    private static TortoiseShelves fenced(TortoiseShelves x, int... cells) {
        for (int c : cells) {
            x.fence(c, 1);
        }
        return x;
    }

    private static void waterhole() {
        b.range("waterhole(_)", STILL, (x, v) -> x.waterhole(v), 0, 0, 11, 29);
        b.quiet("waterhole: of several the least", STILL, x -> x.waterhole(5), 0);
        b.refused("waterhole: nobody has it", STILL, x -> x.waterhole(7), Due.NONE);
        Supplier<TortoiseShelves> one = () -> fenced(Scene.still(), 0);
        b.quiet("waterhole: the least is fenced", one, x -> x.waterhole(5), 29);
        b.refused("waterhole: the only one is fenced", one, x -> x.waterhole(0), Due.NONE);
        Supplier<TortoiseShelves> two = () -> fenced(Scene.still(), 0, 29);
        b.refused("waterhole: both are fenced", two, x -> x.waterhole(5), Due.NONE);
        // soonest goes ahead of least: it is in 29 now, and in 14 but later
        Supplier<TortoiseShelves> walks = () -> {
            TortoiseShelves x = new TortoiseShelves();
            x.tortoise(Due.TORTOISE, 29, 1);
            return x;
        };
        b.quiet("waterhole: soonest ahead of least", walks, x -> x.waterhole(0), 29);
        Supplier<TortoiseShelves> walksOut = () -> fenced(walks.get(), 29);
        b.quiet("waterhole: the first free cell on its way", walksOut, x -> x.waterhole(0), 23);
    }

    private static void many() {
        b.range("many(_, 0)", STILL, (x, v) -> x.many(v, 0), 0, 2, 29, 2);
        b.range("many(14, _)", STILL, (x, v) -> x.many(14, v), 0, 0, 48, 3);
        b.quiet("many(14, 3)", STILL, x -> x.many(14, 3), 0);
        b.quiet("many(14, 4)", STILL, x -> x.many(14, 4), 2);
        b.quiet("many(14, 5)", STILL, x -> x.many(14, 5), 3);
        b.quiet("many(14, 47)", STILL, x -> x.many(14, 47), 3);
        b.refused("many: fenced", FENCED, x -> x.many(9, 0), Due.STATE);
        b.refused("many: fenced, 48", FENCED, x -> x.many(9, 48), Due.STATE);
        b.refused("many: fenced, n above", FENCED, x -> x.many(9, 49), Due.BEYOND);
        b.refused("many: fenced, n below", FENCED, x -> x.many(9, -1), Due.BEYOND);
        TortoiseShelves x = new TortoiseShelves();
        for (int i = 0; i < 8; i++) {
            x.tortoise(Due.OLD, 29, 4095);
        }
        d.due("all twelve, at once", x.many(29, 0), 12);
        d.due("all twelve, in 9 hours", x.many(0, 9), 12);
        d.due("none in 8 hours", x.many(0, 8), 0);
    }

    private static void both() {
        b.range("both(_, 0, 11)", STILL, (x, v) -> x.both(v, 0, 11), 0, 9, 29, 9);
        b.range("both(14, _, 5)", STILL, (x, v) -> x.both(14, v, 5), 0, 4, 11, 5);
        b.range("both(14, 5, _)", STILL, (x, v) -> x.both(14, 5, v), 0, 4, 11, 5);
        for (int s = 0; s < 12; s++) {
            int subject = s;
            b.refused("both: one and the same, " + s, STILL, x -> x.both(0, subject, subject), Due.BEYOND);
        }
        b.refused("both: fenced", FENCED, x -> x.both(9, 0, 11), Due.STATE);
        b.refused("both: fenced, nobody has them", FENCED, x -> x.both(9, 7, 8), Due.STATE);
        b.refused("both: fenced, one and the same", FENCED, x -> x.both(9, 3, 3), Due.BEYOND);
        b.refused("both: fenced, no such one", FENCED, x -> x.both(9, 12, 0), Due.BEYOND);
        b.refused("both: fenced, no such other one", FENCED, x -> x.both(9, 0, 12), Due.BEYOND);
        b.refused("both: nobody has the one", STILL, x -> x.both(0, 7, 0), Due.NONE);
        b.refused("both: nobody has the other one", STILL, x -> x.both(0, 0, 7), Due.NONE);
        b.refused("both: nobody has either", STILL, x -> x.both(0, 7, 8), Due.NONE);
        b.quiet("both: at once", STILL, x -> x.both(0, 0, 5), 0);
        b.quiet("both: from the midst, to and fro", STILL, x -> x.both(14, 0, 11), 13);
        b.quiet("both: in whichever order", STILL, x -> x.both(14, 11, 0), 13);
    }

    private static void censors() {
        b.range("censors(_, 5, 14)", STILL, (x, v) -> x.censors(v, 5, 14), 0, 0, 29, 0);
        b.range("censors(14, _, 13)", STILL, (x, v) -> x.censors(14, v, 13), 0, 0, 11, 0);
        b.range("censors(14, 0, _)", STILL, (x, v) -> x.censors(14, 0, v), 0, 99, 29, 0);
        for (int c : new int[] {0, 14, 29}) {
            b.refused("censors: his own, " + c, STILL, x -> x.censors(c, 5, c), Due.BEYOND);
        }
        b.refused("censors: his own, nobody has it", STILL, x -> x.censors(14, 7, 14), Due.BEYOND);
        b.refused("censors: his own, fenced", FENCED, x -> x.censors(9, 0, 9), Due.BEYOND);
        b.refused("censors: fenced, no such cell", FENCED, x -> x.censors(9, 0, 30), Due.BEYOND);
        b.refused("censors: fenced, no such cell below", FENCED, x -> x.censors(9, 0, -1), Due.BEYOND);
        b.refused("censors: fenced, no such subject", FENCED, x -> x.censors(9, 12, 1), Due.BEYOND);
        b.refused("censors: his is fenced", FENCED, x -> x.censors(9, 0, 1), Due.STATE);
        b.refused("censors: his is fenced, nobody has it", FENCED, x -> x.censors(9, 7, 1), Due.STATE);
        b.refused("censors: nobody has it", FENCED, x -> x.censors(14, 7, 1), Due.NONE);
        b.quiet("censors: a cell that is fenced already", FENCED, x -> x.censors(14, 0, 9), 0);
        b.quiet("censors: at once, all the same", STILL, x -> x.censors(0, 0, 1), 0);
        b.quiet("censors: its cell", STILL, x -> x.censors(14, 11, 29), 99);
        b.quiet("censors: sooner, as it is held", RUNNER, x -> x.censors(0, 0, 9), -4);
        Supplier<TortoiseShelves> corridor = () -> fenced(Scene.still(), 7, 8, 9, 10, 11);
        b.quiet("censors: a way round", corridor, x -> x.censors(12, 0, 19), 0);
        b.quiet("censors: no way round", corridor, x -> x.censors(12, 0, 6), 99);
    }

    private static void tips() {
        b.range("tips(_, 0)", RUNNER, (x, v) -> x.tips(v, 0), 0, 0, 29, Due.NONE);
        b.range("tips(0, _)", RUNNER, (x, v) -> x.tips(0, v), 0, 0, 11, 0);
        b.refused("tips: fenced", FENCED, x -> x.tips(9, 0), Due.STATE);
        b.refused("tips: fenced, nobody has it", FENCED, x -> x.tips(9, 7), Due.STATE);
        b.refused("tips: fenced, no such subject", FENCED, x -> x.tips(9, 12), Due.BEYOND);
        b.refused("tips: nobody has it", RUNNER, x -> x.tips(0, 7), Due.NONE);
        b.refused("tips: he reads it at once", RUNNER, x -> x.tips(3, 0), Due.NONE);
        b.refused("tips: all are tipped", STILL, x -> x.tips(14, 0), Due.NONE);
        b.quiet("tips: nobody is tipped by that", RUNNER, x -> x.tips(0, 0), 0);
    }

    /** It counts if it is sooner, by an hour too, and not if it is as soon. */
    private static void tipsSooner() {
        TortoiseShelves x = new TortoiseShelves();
        x.spot(0, 2);
        x.tortoise(Due.TORTOISE, 8, 1);
        d.due("as it is, in two hours", x.soonest(0, 0), 2);
        d.due("no sooner", x.tips(0, 0), Due.NONE);
        x.spot(0, 20);
        d.due("as it runs from him, in five hours", x.soonest(0, 0), 5);
        d.due("in three hours", x.tips(0, 0), 0);
        x.spot(0, 9);
        d.due("as it goes a step from him, in four hours", x.soonest(0, 0), 4);
        d.due("by an hour sooner", x.tips(0, 0), 0);
        x.tortoise(Due.TORTOISE, 8, 1);
        d.due("either of them: the least", x.tips(0, 0), 0);
        x.set(0, 3, 1);
        d.due("one is tipped, so no sooner by the other one", x.tips(0, 0), Due.NONE);
        x.set(0, 2, 0);
        x.set(1, 2, 2);
        d.due("the one that has it, and not the least", x.tips(0, 1), 1);
    }

    private static void spring() {
        b.range("spring(_, 0)", RUNNER, (x, v) -> x.spring(v, 0), 0, 0, 29, 17);
        b.range("spring(0, _)", RUNNER, (x, v) -> x.spring(0, v), 0, 0, 11, 0);
        b.refused("spring: fenced", FENCED, x -> x.spring(9, 0), Due.STATE);
        b.refused("spring: fenced, nobody has it", FENCED, x -> x.spring(9, 7), Due.STATE);
        b.refused("spring: fenced, no such subject", FENCED, x -> x.spring(9, 12), Due.BEYOND);
        b.refused("spring: nobody has it", FENCED, x -> x.spring(14, 7), Due.NONE);
        b.quiet("spring: at once by all: the least", STILL, x -> x.spring(29, 11), 0);
        Supplier<TortoiseShelves> inAFence = () -> fenced(Scene.still(), 0);
        b.refused("spring: a tipped one in a fence, by none", inAFence, x -> x.spring(14, 0), Due.NONE);
        b.quiet("spring: the least that isn't fenced", inAFence, x -> x.spring(29, 11), 1);
    }

    /** Only the last cell may be the spring, and it need not be what it is now. */
    private static void springFenced() {
        TortoiseShelves x = new TortoiseShelves();
        for (int c = 0; c < 30; c++) {
            x.fence(c, 1);
        }
        x.fence(29, 0);
        x.tortoise(Due.TORTOISE, 23, 1);
        d.due("as it is", x.soonest(29, 0), Due.NONE);
        d.due("by the last cell", x.spring(29, 0), 29);
        d.due("the spring is where it was", x.spot(0, 14), 14);
        x.set(0, 1, 17);
        d.due("too far: a fence between", x.spring(29, 0), Due.NONE);
        x.set(0, 1, 29);
        d.due("there already", x.spring(29, 0), 29);
        x.fence(29, 1);
        d.due("no cell at all", x.spring(29, 0), Due.STATE);
    }

    private static void kind() {
        b.range("kind(_, 9)", HERD, (x, v) -> x.kind(v, 9), 0, 0, 5, 0);
        b.range("kind(0, _)", COMMUTER, (x, v) -> x.kind(0, v), 0, Due.TORTOISE, 29, Due.PAMPHLET);
        b.quiet("kind: in the shade", COMMUTER, x -> x.kind(0, 3), Due.LAW);
        b.refused("kind: by none", COMMUTER, x -> x.kind(0, 24), Due.NONE);
        Supplier<TortoiseShelves> tipped = () -> {
            TortoiseShelves x = Scene.commuter();
            x.set(0, 3, 1);
            return x;
        };
        b.refused("kind: a tipped one elsewhere", tipped, x -> x.kind(0, 29), Due.NONE);
        b.quiet("kind: a tipped one there", tipped, x -> x.kind(0, 0), Due.TORTOISE);
        b.refused("kind: no such one, no such cell", COMMUTER, x -> x.kind(1, 30), Due.BEYOND);
        Supplier<TortoiseShelves> held = () -> fenced(Scene.commuter(), 1, 6);
        b.refused("kind: fenced in", held, x -> x.kind(0, 29), Due.NONE);
    }

    private static void kindWithin72() {
        for (int own = 0; own < 6; own++) {
            int k = own;
            Supplier<TortoiseShelves> at17 = () -> Scene.threeDays(17, k);
            Supplier<TortoiseShelves> at18 = () -> Scene.threeDays(18, k);
            Supplier<TortoiseShelves> at19 = () -> Scene.threeDays(19, k);
            b.quiet("kind: in the 71st hour, now " + k, at19, x -> x.kind(0, 14), Due.CANON);
            b.quiet("kind: in the 72nd hour, now " + k, at18, x -> x.kind(0, 14), Due.CANON);
            b.refused("kind: in the 73rd hour, now " + k, at17, x -> x.kind(0, 14), Due.NONE);
        }
        Supplier<TortoiseShelves> canon = () -> Scene.threeDays(18, Due.CANON);
        int[][] way = {{15, 5}, {16, 11}, {17, 17}, {18, 23}, {19, 17}, {20, 23}, {22, 28}, {25, 10}, {40, 10}, {46, 27},
            {50, 3}, {63, 3}, {64, 9}, {70, 26}, {71, 20}, {72, 14}};
        for (int[] w : way) {
            b.quiet("a canon's way, on " + w[0], canon, x -> x.on(0, w[0], 0), w[1]);
        }
    }

    /** From each cell to each: left, right, above, below, and never over an edge. */
    private static void everyWalk() {
        for (int to = 0; to < 30; to++) {
            TortoiseShelves x = new TortoiseShelves();
            Due.tipped(x, to, 1);
            for (int from = 0; from < 30; from++) {
                int steps = Math.abs(from / 6 - to / 6) + Math.abs(from % 6 - to % 6);
                d.due("soonest from " + from + " to " + to, x.soonest(from, 0), steps);
                d.due("where from " + from + " to " + to, x.where(from, 0), to);
                d.due("many from " + from + " to " + to, x.many(from, steps), 1);
                d.due("too few from " + from + " to " + to, steps == 0 ? 0 : x.many(from, steps - 1), 0);
                d.due("waits in " + from + " for " + to, x.waits(from, 0), steps == 0 ? 0 : Due.NONE);
            }
        }
    }

    /** Two old ones leave their fences at the ends of a winding way in the 24th hour, and then stay for a day. */
    private static TortoiseShelves winding() {
        TortoiseShelves x = fenced(new TortoiseShelves(), 0, 6, 7, 8, 9, 10, 19, 20, 21, 22, 23, 29);
        x.hours(1);
        x.rain(1);
        x.tortoise(Due.OLD, 0, Due.bits(0));
        x.tortoise(Due.OLD, 29, Due.bits(11));
        return x;
    }

    private static void lastOf48() {
        Supplier<TortoiseShelves> way = BoundsReadersTest::winding;
        b.quiet("it comes out in 1", way, x -> x.on(0, 24, 0), 1);
        b.quiet("the other one comes out in 28", way, x -> x.on(1, 24, 0), 28);
        b.quiet("not ahead of that", way, x -> x.on(0, 23, 0), 0);
        b.quiet("soonest: in the 24th hour", way, x -> x.soonest(28, 0), 24);
        b.quiet("where: in the 24th hour", way, x -> x.where(28, 0), 1);
        b.quiet("waterhole: in the 24th hour", way, x -> x.waterhole(0), 1);
        b.quiet("many: in the 23rd hour", way, x -> x.many(28, 23), 0);
        b.quiet("many: in the 24th hour, each by itself", way, x -> x.many(28, 24), 2);
        b.quiet("both: a day, and seventeen steps", way, x -> x.both(28, 0, 11), 41);
        b.quiet("both: from the other end", way, x -> x.both(1, 11, 0), 41);
        b.quiet("censors: a gap of the way", way, x -> x.censors(28, 0, 18), 99);
        b.quiet("censors: ahead of where it comes out", way, x -> x.censors(28, 0, 1), 99);
        b.refused("tips: it would never come out", way, x -> x.tips(28, 0), Due.NONE);
    }

    /** All is fenced but 14. */
    private static TortoiseShelves alone() {
        TortoiseShelves x = new TortoiseShelves();
        for (int c = 0; c < 30; c++) {
            x.fence(c, c == 14 ? 0 : 1);
        }
        x.tortoise(Due.TORTOISE, 13, 1);
        Due.tipped(x, 15, 2);
        return x;
    }

    private static void oneCell() {
        Supplier<TortoiseShelves> alone = BoundsReadersTest::alone;
        b.quiet("one cell: soonest", alone, x -> x.soonest(14, 0), 1);
        b.quiet("one cell: where", alone, x -> x.where(14, 0), 14);
        b.quiet("one cell: waits", alone, x -> x.waits(14, 0), 1);
        b.quiet("one cell: waterhole", alone, x -> x.waterhole(0), 14);
        b.quiet("one cell: many(14, 0)", alone, x -> x.many(14, 0), 0);
        b.quiet("one cell: many(14, 1)", alone, x -> x.many(14, 1), 1);
        b.quiet("one cell: many(14, 48)", alone, x -> x.many(14, 48), 1);
        b.refused("one cell: a tipped one in the fence", alone, x -> x.soonest(14, 1), Due.NONE);
        b.refused("one cell: both", alone, x -> x.both(14, 0, 1), Due.NONE);
        b.refused("one cell: tips", alone, x -> x.tips(14, 0), Due.NONE);
        b.quiet("one cell: spring", alone, x -> x.spring(14, 0), 14);
        b.quiet("one cell: censors", alone, x -> x.censors(14, 0, 13), 0);
    }

    private static void noCell() {
        Supplier<TortoiseShelves> none = () -> fenced(alone(), 14);
        b.refused("no cell: waterhole", none, x -> x.waterhole(0), Due.NONE);
        b.refused("no cell: soonest", none, x -> x.soonest(14, 0), Due.STATE);
        b.refused("no cell: where", none, x -> x.where(0, 0), Due.STATE);
        b.refused("no cell: waits", none, x -> x.waits(29, 0), Due.STATE);
        b.refused("no cell: many", none, x -> x.many(13, 0), Due.STATE);
        b.refused("no cell: both", none, x -> x.both(13, 0, 1), Due.STATE);
        b.refused("no cell: censors", none, x -> x.censors(13, 0, 1), Due.STATE);
        b.refused("no cell: tips", none, x -> x.tips(13, 0), Due.STATE);
        b.refused("no cell: spring", none, x -> x.spring(13, 0), Due.STATE);
    }

    /** The longest way that fences leave: nineteen steps, and none if one more is fenced. */
    private static void longWay() {
        Supplier<TortoiseShelves> way = () -> fenced(Scene.still(), 6, 7, 8, 9, 10, 19, 20, 21, 22, 23);
        b.quiet("soonest: nineteen steps", way, x -> x.soonest(0, 11), 19);
        b.quiet("soonest: and back", way, x -> x.soonest(29, 0), 19);
        b.quiet("many: in eighteen hours", way, x -> x.many(0, 18), 2);
        b.quiet("many: in nineteen hours", way, x -> x.many(0, 19), 3);
        b.quiet("both: from the midst", way, x -> x.both(14, 0, 11), 28);
        b.quiet("censors: no other way", way, x -> x.censors(0, 11, 18), 99);
        Supplier<TortoiseShelves> shut = () -> fenced(way.get(), 11);
        b.refused("soonest: no way", shut, x -> x.soonest(0, 11), Due.NONE);
        b.refused("both: no way", shut, x -> x.both(0, 0, 11), Due.NONE);
        b.refused("censors: no way as it is", shut, x -> x.censors(0, 11, 18), Due.NONE);
    }
}
