/** Promises 6 to 11: tortoise, of, set, turn, as, lend. */
public final class TortoisesTest {
    private static final Due d = new Due();

    public static void main(String[] args) {
        tortoise();
        of();
        aimsAndPaces();
        set();
        turn();
        as();
        lend();
        d.end();
    }

    private static void tortoise() {
        TortoiseShelves x = new TortoiseShelves();
        d.due("tortoise(-1, 0, 0)", x.tortoise(-1, 0, 0), Due.BEYOND);
        d.due("tortoise(6, 0, 0)", x.tortoise(6, 0, 0), Due.BEYOND);
        d.due("tortoise(0, -1, 0)", x.tortoise(0, -1, 0), Due.BEYOND);
        d.due("tortoise(0, 30, 0)", x.tortoise(0, 30, 0), Due.BEYOND);
        d.due("tortoise(0, 0, -1)", x.tortoise(0, 0, -1), Due.BEYOND);
        d.due("tortoise(0, 0, 4096)", x.tortoise(0, 0, 4096), Due.BEYOND);
        for (int far : Due.FAR) {
            d.due("tortoise(" + far + ", 0, 0)", x.tortoise(far, 0, 0), Due.BEYOND);
            d.due("tortoise(0, " + far + ", 0)", x.tortoise(0, far, 0), Due.BEYOND);
        }
        d.due("none came", x.count(0), 0);
        x.fence(29, 1);
        for (int i = 0; i < 8; i++) {
            d.due("tortoise " + i, x.tortoise(i % 6, 29, 4095), i);
        }
        d.due("a 9th", x.tortoise(0, 0, 0), Due.FULL);
        d.due("a 9th, wrong", x.tortoise(6, 0, 0), Due.BEYOND);
        d.due("a 9th, wrong cell", x.tortoise(0, 30, 0), Due.BEYOND);
        d.due("eight", x.count(0), 8);
        d.due("full once", x.status(1), 1);
    }

    private static void of() {
        TortoiseShelves x = new TortoiseShelves();
        x.tortoise(Due.CANON, 7, 9);
        d.due("of(0, 0)", x.of(0, 0), Due.CANON);
        d.due("of(0, 1)", x.of(0, 1), 7);
        d.due("of(0, 2)", x.of(0, 2), 9);
        d.due("of(0, 3)", x.of(0, 3), 0);
        d.due("of(0, 4)", x.of(0, 4), 14);
        d.due("of(0, 5)", x.of(0, 5), 1);
        d.due("of(0, 6)", x.of(0, 6), Due.BEYOND);
        d.due("of(0, -1)", x.of(0, -1), Due.BEYOND);
        d.due("of(1, 0)", x.of(1, 0), Due.BEYOND);
        d.due("of(-1, 0)", x.of(-1, 0), Due.BEYOND);
        for (int far : Due.FAR) {
            d.due("of(" + far + ", 0)", x.of(far, 0), Due.BEYOND);
            d.due("of(0, " + far + ")", x.of(0, far), Due.BEYOND);
        }
    }

    /** The table of AIM and PACE, hour by hour, on those who don't move. */
    private static void aimsAndPaces() {
        TortoiseShelves x = new TortoiseShelves();
        x.spot(0, 20);
        x.spot(1, 21);
        x.spot(2, 22);
        for (int kind = 0; kind < 6; kind++) {
            x.tortoise(kind, 9, 0);
            x.set(kind, 3, 1);
        }
        for (int hour = 0; hour < 30; hour++) {
            int clock = hour % 24;
            boolean noon = clock >= 10 && clock <= 15;
            String at = " at hour " + hour;
            x.rain(0);
            aims(x, "dry" + at, 20, noon ? 21 : 20, 9, clock >= 20 ? 22 : 20, noon ? 21 : 20);
            x.rain(1 << clock);
            aims(x, "wet" + at, 20, noon ? 21 : 20, 20, clock >= 20 ? 22 : 20, 22);
            int[] paces = {1, 2, 1, clock % 2 == 0 ? 1 : 0, 3, 1};
            for (int kind = 0; kind < 6; kind++) {
                d.due("pace of kind " + kind + at, x.of(kind, 5), paces[kind]);
            }
            x.hours(1);
        }
    }

    private static void aims(TortoiseShelves x, String name, int tortoise, int law, int old, int pamphlet, int canon) {
        d.due("aim of tortoise, " + name, x.of(Due.TORTOISE, 4), tortoise);
        d.due("aim of young, " + name, x.of(Due.YOUNG, 4), tortoise);
        d.due("aim of law, " + name, x.of(Due.LAW, 4), law);
        d.due("aim of old, " + name, x.of(Due.OLD, 4), old);
        d.due("aim of pamphlet, " + name, x.of(Due.PAMPHLET, 4), pamphlet);
        d.due("aim of canon, " + name, x.of(Due.CANON, 4), canon);
    }

    private static void set() {
        TortoiseShelves x = new TortoiseShelves();
        x.tortoise(Due.OLD, 3, 5);
        d.due("set(0, 1, 29)", x.set(0, 1, 29), 3);
        d.due("set(0, 1, 0)", x.set(0, 1, 0), 29);
        d.due("set(0, 2, 4095)", x.set(0, 2, 4095), 5);
        d.due("set(0, 2, 0)", x.set(0, 2, 0), 4095);
        d.due("set(0, 3, 1)", x.set(0, 3, 1), 0);
        d.due("set(0, 3, 1) again", x.set(0, 3, 1), 1);
        d.due("set(0, 1, 30)", x.set(0, 1, 30), Due.BEYOND);
        d.due("set(0, 1, -1)", x.set(0, 1, -1), Due.BEYOND);
        d.due("set(0, 2, 4096)", x.set(0, 2, 4096), Due.BEYOND);
        d.due("set(0, 2, -1)", x.set(0, 2, -1), Due.BEYOND);
        d.due("set(0, 3, 2)", x.set(0, 3, 2), Due.BEYOND);
        d.due("set(0, 3, -1)", x.set(0, 3, -1), Due.BEYOND);
        d.due("set(0, 0, 1)", x.set(0, 0, 1), Due.BEYOND);
        d.due("set(0, 4, 1)", x.set(0, 4, 1), Due.BEYOND);
        d.due("set(1, 1, 1)", x.set(1, 1, 1), Due.BEYOND);
        d.due("set(-1, 1, 1)", x.set(-1, 1, 1), Due.BEYOND);
        for (int far : Due.FAR) {
            d.due("set(" + far + ", 1, 1)", x.set(far, 1, 1), Due.BEYOND);
            d.due("set(0, " + far + ", 1)", x.set(0, far, 1), Due.BEYOND);
            d.due("set(0, 1, " + far + ")", x.set(0, 1, far), Due.BEYOND);
        }
        d.due("kind as it was", x.of(0, 0), Due.OLD);
        d.due("cell as it was", x.of(0, 1), 0);
        d.due("books as they were", x.of(0, 2), 0);
        d.due("tipped as it was", x.of(0, 3), 1);
        d.due("set(0, 3, 0)", x.set(0, 3, 0), 1);
        d.due("upright", x.of(0, 3), 0);
    }

    private static void turn() {
        TortoiseShelves x = new TortoiseShelves();
        x.tortoise(Due.OLD, 3, 5);
        d.due("turn(0, 5)", x.turn(0, 5), Due.OLD);
        d.due("turn(0, 0)", x.turn(0, 0), Due.CANON);
        d.due("turn(0, 0) again", x.turn(0, 0), Due.TORTOISE);
        d.due("turn(0, 6)", x.turn(0, 6), Due.BEYOND);
        d.due("turn(0, -1)", x.turn(0, -1), Due.BEYOND);
        d.due("turn(1, 0)", x.turn(1, 0), Due.BEYOND);
        d.due("turn(-1, 0)", x.turn(-1, 0), Due.BEYOND);
        for (int far : Due.FAR) {
            d.due("turn(" + far + ", 0)", x.turn(far, 0), Due.BEYOND);
            d.due("turn(0, " + far + ")", x.turn(0, far), Due.BEYOND);
        }
        d.due("the rest stays: cell", x.of(0, 1), 3);
        d.due("the rest stays: books", x.of(0, 2), 5);
    }

    private static void as() {
        TortoiseShelves x = new TortoiseShelves();
        boolean[][] under = {
            {true, false, false, false, false, false},
            {true, true, false, false, false, false},
            {true, false, true, false, false, false},
            {true, false, false, true, false, false},
            {true, true, false, false, true, false},
            {true, false, true, false, false, true},
        };
        for (int kind = 0; kind < 6; kind++) {
            x.tortoise(kind, 0, 100 + kind);
            for (int above = 0; above < 6; above++) {
                d.due("as(" + kind + ", " + above + ")", x.as(kind, above), under[kind][above] ? 100 + kind : Due.KIND);
            }
        }
        d.due("as(6, 0)", x.as(6, 0), Due.BEYOND);
        d.due("as(-1, 0)", x.as(-1, 0), Due.BEYOND);
        d.due("as(0, 6)", x.as(0, 6), Due.BEYOND);
        d.due("as(0, -1)", x.as(0, -1), Due.BEYOND);
        for (int far : Due.FAR) {
            d.due("as(" + far + ", 0)", x.as(far, 0), Due.BEYOND);
            d.due("as(0, " + far + ")", x.as(0, far), Due.BEYOND);
        }
    }

    private static void lend() {
        TortoiseShelves x = new TortoiseShelves();
        x.tortoise(0, 4, Due.bits(0, 3, 11));
        x.tortoise(0, 4, Due.bits(3));
        x.tortoise(0, 5, 0);
        d.due("lend(0, 1, 11)", x.lend(0, 1, 11), 1);
        d.due("it went", x.of(0, 2), Due.bits(0, 3));
        d.due("it came", x.of(1, 2), Due.bits(3, 11));
        d.due("the other one has it", x.lend(0, 1, 3), Due.NONE);
        d.due("it hasn't that", x.lend(0, 1, 5), Due.NONE);
        d.due("both lack it and are apart", x.lend(0, 2, 5), Due.STATE);
        d.due("apart", x.lend(0, 2, 0), Due.STATE);
        d.due("one and the same", x.lend(0, 0, 0), Due.BEYOND);
        d.due("lend(0, 2, 12)", x.lend(0, 2, 12), Due.BEYOND);
        d.due("lend(0, 1, -1)", x.lend(0, 1, -1), Due.BEYOND);
        d.due("lend(0, 3, 0)", x.lend(0, 3, 0), Due.BEYOND);
        d.due("lend(3, 0, 0)", x.lend(3, 0, 0), Due.BEYOND);
        d.due("lend(-1, 0, 0)", x.lend(-1, 0, 0), Due.BEYOND);
        d.due("lend(0, -1, 0)", x.lend(0, -1, 0), Due.BEYOND);
        for (int far : Due.FAR) {
            d.due("lend(" + far + ", 1, 0)", x.lend(far, 1, 0), Due.BEYOND);
            d.due("lend(0, " + far + ", 0)", x.lend(0, far, 0), Due.BEYOND);
            d.due("lend(0, 1, " + far + ")", x.lend(0, 1, far), Due.BEYOND);
        }
        d.due("nothing else went", x.of(0, 2), Due.bits(0, 3));
        d.due("nothing else came", x.of(1, 2), Due.bits(3, 11));
        d.due("back: lend(1, 0, 11)", x.lend(1, 0, 11), 1);
        d.due("came back", x.of(0, 2), Due.bits(0, 3, 11));
    }
}
