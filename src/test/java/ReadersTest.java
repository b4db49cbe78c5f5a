/** Promises 18 to 24: soonest, where, waits, waterhole, many, both, censors. */
public final class ReadersTest {
    private static final Due d = new Due();

    public static void main(String[] args) {
        soonestAndWhere();
        mazes();
        lastOf48();
        waits();
        waterhole();
        many();
        both();
        censors();
        wrongInputs();
        nothingChanges();
        d.end();
    }

    /** One tortoise with SUBJECT 2 on its way 0, 6, 12, 13, 14. */
    private static TortoiseShelves walker() {
        TortoiseShelves x = new TortoiseShelves();
        x.tortoise(Due.TORTOISE, 0, 4);
        return x;
    }

    private static void soonestAndWhere() {
        TortoiseShelves x = walker();
        d.due("soonest(0, 2)", x.soonest(0, 2), 0);
        d.due("where(0, 2)", x.where(0, 2), 0);
        d.due("soonest(14, 2)", x.soonest(14, 2), 2);
        d.due("where(14, 2)", x.where(14, 2), 12);
        d.due("soonest(12, 2)", x.soonest(12, 2), 1);
        d.due("where(12, 2)", x.where(12, 2), 6);
        d.due("soonest(29, 2)", x.soonest(29, 2), 5);
        d.due("where(29, 2)", x.where(29, 2), 14);
        d.due("soonest(29, 3)", x.soonest(29, 3), Due.NONE);
        d.due("where(29, 3)", x.where(29, 3), Due.NONE);
        Due.tipped(x, 17, 4);
        d.due("a tipped one is read", x.soonest(29, 2), 2);
        d.due("it is read there", x.where(29, 2), 17);

        x = new TortoiseShelves();
        Due.tipped(x, 20, 1);
        Due.tipped(x, 8, 1);
        d.due("two as near: soonest", x.soonest(14, 0), 1);
        d.due("two as near: the least cell", x.where(14, 0), 8);
        d.due("the edge isn't passed: 5 to 6", sideways(5, 6), 6);
        d.due("the edge isn't passed: 6 to 5", sideways(6, 5), 6);
        d.due("29 to 0", sideways(29, 0), 9);
        d.due("0 to 29", sideways(0, 29), 9);
        d.due("24 to 5", sideways(24, 5), 9);
        d.due("5 to 24", sideways(5, 24), 9);

        // the book changes backs on the way: SUBJECT 1 goes from 15 to the one that comes from 13
        x = new TortoiseShelves();
        x.tortoise(0, 13, 0);
        x.tortoise(0, 15, 6);
        d.due("soonest(14, 1)", x.soonest(14, 1), 1);
    }

    private static int sideways(int from, int to) {
        TortoiseShelves x = new TortoiseShelves();
        Due.tipped(x, to, 1);
        return x.soonest(from, 0);
    }

    private static void mazes() {
        TortoiseShelves x = new TortoiseShelves();
        Due.tipped(x, 2, 1);
        x.fence(1, 1);
        x.fence(7, 1);
        x.fence(13, 1);
        d.due("round three fences", x.soonest(0, 0), 8);
        x.fence(19, 1);
        x.fence(25, 1);
        d.due("no way through", x.soonest(0, 0), Due.NONE);
        d.due("nowhere", x.where(0, 0), Due.NONE);
        d.due("a reader in a fence", x.soonest(1, 0), Due.STATE);
        x.set(0, 1, 1);
        d.due("a book in a fence isn't reached", x.soonest(0, 0), Due.NONE);
        x.set(0, 3, 0);
        d.due("but it comes out", x.soonest(4, 0), 4);
        d.due("and on to 14", x.where(4, 0), 14);
    }

    /** An old one that goes one step a day, behind the 24th, the 48th and the 72nd hour from now. */
    private static TortoiseShelves dailyStep(int cell) {
        TortoiseShelves x = new TortoiseShelves();
        x.tortoise(Due.OLD, cell, 1);
        x.hours(23);
        x.rain(1 << 22);
        return x;
    }

    private static void lastOf48() {
        TortoiseShelves x = dailyStep(12);
        d.due("in the 24th hour", x.waits(13, 0), 24);
        d.due("in the 48th hour", x.waits(14, 0), 48);
        x = dailyStep(6);
        d.due("in the 48th hour, from 6", x.waits(13, 0), 48);
        d.due("in the 72nd hour", x.waits(14, 0), Due.NONE);

        x = dailyStep(12);
        x.fence(12, 1);
        d.due("out of its fence: soonest", x.soonest(14, 0), 24);
        d.due("out of its fence: where", x.where(14, 0), 13);
        d.due("out of its fence: waterhole", x.waterhole(0), 13);
        d.due("many(14, 23)", x.many(14, 23), 0);
        d.due("many(14, 24)", x.many(14, 24), 1);
        x.set(0, 2, 3);
        d.due("out of its fence: both", x.both(14, 0, 1), 24);
    }

    private static void waits() {
        TortoiseShelves x = walker();
        int[] way = {0, 6, 12, 13, 14};
        for (int h = 0; h < way.length; h++) {
            d.due("waits(" + way[h] + ", 2)", x.waits(way[h], 2), h);
        }
        d.due("waits(7, 2)", x.waits(7, 2), Due.NONE);
        d.due("waits(14, 1)", x.waits(14, 1), Due.NONE);
        x.fence(14, 1);
        d.due("waits(14, 2)", x.waits(14, 2), Due.STATE);
    }

    private static void waterhole() {
        TortoiseShelves x = walker();
        d.due("waterhole(2)", x.waterhole(2), 0);
        x.fence(0, 1);
        d.due("0 is fenced", x.waterhole(2), 6);
        x.fence(12, 1);
        x.fence(7, 1);
        d.due("held in 6", x.waterhole(2), 6);
        x.fence(6, 1);
        d.due("0 and 6 are fenced", x.waterhole(2), 1);
        d.due("waterhole(3)", x.waterhole(3), Due.NONE);

        x = new TortoiseShelves();
        Due.tipped(x, 20, 1);
        Due.tipped(x, 9, 1);
        Due.tipped(x, 10, 1);
        d.due("of several the least", x.waterhole(0), 9);
    }

    private static void many() {
        TortoiseShelves x = new TortoiseShelves();
        Due.tipped(x, 0, Due.bits(0, 1));
        Due.tipped(x, 1, Due.bits(1, 2));
        Due.tipped(x, 13, Due.bits(11));
        d.due("many(0, 0)", x.many(0, 0), 2);
        d.due("many(0, 1)", x.many(0, 1), 3);
        d.due("many(0, 2)", x.many(0, 2), 3);
        d.due("many(0, 3)", x.many(0, 3), 4);
        d.due("many(0, 48)", x.many(0, 48), 4);
        d.due("each by itself: many(7, 1)", x.many(7, 1), 3);
        x.fence(13, 1);
        d.due("one is fenced", x.many(0, 48), 3);
        d.due("many(13, 0)", x.many(13, 0), Due.STATE);
        x = walker();
        d.due("a moving one: many(14, 1)", x.many(14, 1), 0);
        d.due("a moving one: many(14, 2)", x.many(14, 2), 1);
        x = new TortoiseShelves();
        x.tortoise(Due.PAMPHLET, 7, 1);
        d.due("what was there before counts: many(7, 9)", x.many(7, 9), 1);
    }

    private static void both() {
        TortoiseShelves x = new TortoiseShelves();
        Due.tipped(x, 0, Due.bits(0));
        Due.tipped(x, 29, Due.bits(1));
        d.due("both(14, 0, 1)", x.both(14, 0, 1), 13);
        d.due("both(14, 1, 0)", x.both(14, 1, 0), 13);
        d.due("both(0, 0, 1)", x.both(0, 0, 1), 9);
        d.due("both(0, 0, 2)", x.both(0, 0, 2), Due.NONE);
        d.due("both(0, 2, 0)", x.both(0, 2, 0), Due.NONE);
        d.due("both(0, 3, 3)", x.both(0, 3, 3), Due.BEYOND);
        x.fence(29, 1);
        d.due("one is fenced", x.both(14, 0, 1), Due.NONE);
        d.due("both(29, 0, 1)", x.both(29, 0, 1), Due.STATE);
        d.due("both(29, 3, 3)", x.both(29, 3, 3), Due.BEYOND);

        x = new TortoiseShelves();
        Due.tipped(x, 9, Due.bits(4, 5));
        d.due("at once", x.both(9, 4, 5), 0);
        d.due("from afar", x.both(0, 4, 5), 4);

        x = new TortoiseShelves();
        Due.tipped(x, 2, Due.bits(0));
        Due.tipped(x, 9, Due.bits(4));
        d.due("on the way", x.both(0, 4, 0), 4);

        // a young one with SUBJECT 1 runs by way of 21 and 19 to 18
        x = new TortoiseShelves();
        x.spot(0, 18);
        Due.tipped(x, 14, Due.bits(0));
        x.tortoise(Due.YOUNG, 16, Due.bits(1));
        d.due("he meets it in 19", x.both(14, 0, 1), 2);
        x.set(1, 1, 17);
        d.due("from 17 it comes by 22 and 20", x.both(13, 0, 1), 2);
    }

    private static void censors() {
        TortoiseShelves x = new TortoiseShelves();
        Due.tipped(x, 5, 1);
        d.due("a way round by a row", x.censors(0, 0, 2), 2);
        d.due("no need of it", x.censors(0, 0, 29), 0);
        x.fence(8, 1);
        d.due("a way round by two rows", x.censors(0, 0, 2), 4);
        d.due("fenced already", x.censors(0, 0, 8), 0);
        d.due("its own cell", x.censors(0, 0, 5), 99);
        for (int cell : new int[] {2, 14, 20}) {
            x.fence(cell, 1);
        }
        d.due("the last gap", x.censors(0, 0, 26), 99);
        d.due("nothing is fenced by it", x.cell(26, 0), 0);
        x.fence(26, 1);
        d.due("one doesn't read it", x.censors(0, 0, 1), Due.NONE);
        d.due("the reader's is fenced", x.censors(26, 0, 1), Due.STATE);
        d.due("the reader's own", x.censors(26, 0, 26), Due.BEYOND);
        d.due("the reader's own, free", x.censors(0, 0, 0), Due.BEYOND);

        // it would run away from the reader, but for the fence
        x = new TortoiseShelves();
        x.spot(0, 27);
        x.tortoise(Due.YOUNG, 3, 1);
        d.due("as it runs", x.soonest(0, 0), 7);
        d.due("held by a fence", x.censors(0, 0, 9), -4);
    }

    private static void wrongInputs() {
        TortoiseShelves x = new TortoiseShelves();
        x.tortoise(0, 0, 4095);
        x.fence(9, 1);
        int[] beyondCells = {-1, 30, Integer.MIN_VALUE, Integer.MAX_VALUE, 1 << 30, 32, 64};
        for (int c : beyondCells) {
            d.due("soonest(" + c + ", 0)", x.soonest(c, 0), Due.BEYOND);
            d.due("where(" + c + ", 0)", x.where(c, 0), Due.BEYOND);
            d.due("waits(" + c + ", 0)", x.waits(c, 0), Due.BEYOND);
            d.due("many(" + c + ", 0)", x.many(c, 0), Due.BEYOND);
            d.due("both(" + c + ", 0, 1)", x.both(c, 0, 1), Due.BEYOND);
            d.due("censors(" + c + ", 0, 1)", x.censors(c, 0, 1), Due.BEYOND);
            d.due("censors(0, 0, " + c + ")", x.censors(0, 0, c), Due.BEYOND);
        }
        int[] beyondSubjects = {-1, 12, Integer.MIN_VALUE, Integer.MAX_VALUE, 32};
        for (int s : beyondSubjects) {
            d.due("soonest(9, " + s + ")", x.soonest(9, s), Due.BEYOND);
            d.due("where(9, " + s + ")", x.where(9, s), Due.BEYOND);
            d.due("waits(9, " + s + ")", x.waits(9, s), Due.BEYOND);
            d.due("waterhole(" + s + ")", x.waterhole(s), Due.BEYOND);
            d.due("both(9, " + s + ", 1)", x.both(9, s, 1), Due.BEYOND);
            d.due("both(9, 1, " + s + ")", x.both(9, 1, s), Due.BEYOND);
            d.due("censors(9, " + s + ", 1)", x.censors(9, s, 1), Due.BEYOND);
        }
        for (int n : new int[] {-1, 49, Integer.MIN_VALUE, Integer.MAX_VALUE}) {
            d.due("many(9, " + n + ")", x.many(9, n), Due.BEYOND);
        }
        d.due("soonest(9, 0)", x.soonest(9, 0), Due.STATE);
        d.due("where(9, 0)", x.where(9, 0), Due.STATE);
        d.due("waits(9, 0)", x.waits(9, 0), Due.STATE);
        d.due("many(9, 0)", x.many(9, 0), Due.STATE);
        d.due("both(9, 0, 1)", x.both(9, 0, 1), Due.STATE);
        d.due("censors(9, 0, 1)", x.censors(9, 0, 1), Due.STATE);
    }

    private static void nothingChanges() {
        TortoiseShelves x = walker();
        x.soonest(29, 2);
        x.where(29, 2);
        x.waits(14, 2);
        x.waterhole(2);
        x.many(29, 48);
        x.both(29, 2, 3);
        x.censors(29, 2, 14);
        d.due("hour as it was", x.now(0), 0);
        d.due("cell as it was", x.of(0, 1), 0);
        d.due("no fence", x.count(2), 0);
    }
}
