/** Promises 12 to 17: hours, now, on, when, meet, carries. */
public final class HoursTest {
    private static final Due d = new Due();

    public static void main(String[] args) {
        hours();
        lastHour();
        ways();
        oldOnesAim();
        noonAndBeach();
        meeting();
        now();
        on();
        when();
        meet();
        carries();
        eight();
        d.end();
    }

    private static void hours() {
        TortoiseShelves x = new TortoiseShelves();
        x.tortoise(0, 0, 7);
        x.tortoise(0, 29, 3);
        d.due("hours(0)", x.hours(0), Due.BEYOND);
        d.due("hours(73)", x.hours(73), Due.BEYOND);
        d.due("hours(-1)", x.hours(-1), Due.BEYOND);
        for (int far : Due.FAR) {
            d.due("hours(" + far + ")", x.hours(far), Due.BEYOND);
        }
        d.due("no hour went", x.now(0), 0);
        d.due("hours(1)", x.hours(1), 5);
        d.due("one went", x.now(0), 1);
        d.due("hours(72)", x.hours(72), 5);
        d.due("73 went", x.now(0), 73);
    }

    private static void lastHour() {
        TortoiseShelves x = new TortoiseShelves();
        x.tortoise(Due.LAW, 14, 1);
        for (int i = 0; i < 138; i++) {
            x.hours(72);
        }
        d.due("9936", x.now(0), 9936);
        d.due("hours(64) of 63", x.hours(64), Due.STATE);
        d.due("hours(73) is asked first", x.hours(73), Due.BEYOND);
        d.due("still 9936", x.now(0), 9936);
        d.due("hours(63)", x.hours(63), 1);
        d.due("9999", x.now(0), 9999);
        d.due("clock 15", x.now(1), 15);
        d.due("hours(1)", x.hours(1), Due.STATE);
        // at clock 14 it came to the shade; on from here the spring draws it back
        d.due("in the shade", x.of(0, 1), 3);
        d.due("on(0, 1, 0)", x.on(0, 1, 0), 3);
        d.due("on(0, 4, 0)", x.on(0, 4, 0), 14);
        d.due("when(0, 14)", x.when(0, 14), 4);
        d.due("soonest(14, 0)", x.soonest(14, 0), 2);
    }

    private static void way(String name, TortoiseShelves x, int... cells) {
        for (int h = 0; h < cells.length; h++) {
            d.due(name + " on " + h, x.on(0, h, 0), cells[h]);
        }
    }

    private static TortoiseShelves one(int kind, int cell) {
        TortoiseShelves x = new TortoiseShelves();
        x.tortoise(kind, cell, 1);
        return x;
    }

    private static void ways() {
        way("rows first, down and right", one(0, 0), 0, 6, 12, 13, 14, 14);
        way("rows first, up and left", one(0, 29), 29, 23, 17, 16, 15, 14, 14);
        way("young", one(Due.YOUNG, 0), 0, 12, 14, 14);
        way("young by odd steps", one(Due.YOUNG, 29), 29, 17, 15, 14, 14);
        way("pamphlet", one(Due.PAMPHLET, 0), 0, 13, 14, 14);
        way("law in the morning", one(Due.LAW, 0), 0, 6, 12, 13, 14);

        TortoiseShelves x = one(0, 0);
        x.fence(6, 1);
        way("a fence below", x, 0, 1, 7, 13, 14);
        x.fence(1, 1);
        way("fenced in", x, 0, 0, 0);
        x.fence(6, 0);
        x.fence(13, 1);
        way("stuck in its row", x, 0, 6, 12, 12, 12);

        x = one(0, 0);
        x.fence(0, 1);
        way("out of a fenced cell", x, 0, 6, 12, 13, 14);
        x.fence(14, 1);
        way("a fenced spring", x, 0, 6, 12, 13, 13);

        x = one(0, 2);
        x.fence(8, 1);
        way("no way round in the aim's column", x, 2, 2, 2);

        x = one(Due.YOUNG, 0);
        x.fence(6, 1);
        way("each step by itself", x, 0, 7, 14);
        x.set(0, 3, 1);
        way("tipped", x, 0, 0, 0);
    }

    private static void oldOnesAim() {
        TortoiseShelves x = one(Due.OLD, 0);
        way("old, dry", x, 0, 0, 0, 0);
        x.rain((1 << 24) - 1);
        way("old, at even clocks", x, 0, 6, 6, 12, 12, 13, 13, 14, 14);
        x.rain(Due.bits(1, 2));
        way("old, rain at 1 and 2", x, 0, 0, 0, 6, 6, 6);
    }

    private static void noonAndBeach() {
        TortoiseShelves x = one(Due.LAW, 14);
        d.due("law on 10", x.on(0, 10, 0), 14);
        d.due("law on 11", x.on(0, 11, 0), 8);
        d.due("law on 13", x.on(0, 13, 0), 3);
        d.due("law on 16", x.on(0, 16, 0), 3);
        d.due("law on 17", x.on(0, 17, 0), 9);
        d.due("law on 19", x.on(0, 19, 0), 14);

        x = one(Due.PAMPHLET, 14);
        d.due("pamphlet on 20", x.on(0, 20, 0), 14);
        d.due("pamphlet on 21", x.on(0, 21, 0), 25);
        d.due("pamphlet on 22", x.on(0, 22, 0), 24);
        d.due("pamphlet on 24", x.on(0, 24, 0), 24);
        d.due("pamphlet on 25", x.on(0, 25, 0), 13);

        x = one(Due.CANON, 14);
        x.rain(Due.bits(3, 11));
        d.due("canon on 3", x.on(0, 3, 0), 14);
        d.due("canon on 4", x.on(0, 4, 0), 20);
        d.due("canon on 5", x.on(0, 5, 0), 14);
        d.due("canon on 11", x.on(0, 11, 0), 8);
        d.due("canon on 12", x.on(0, 12, 0), 14);
        d.due("canon on 13", x.on(0, 13, 0), 8);
    }

    private static void books(String name, TortoiseShelves x, int... books) {
        for (int i = 0; i < books.length; i++) {
            d.due(name + ": books of " + i, x.of(i, 2), books[i]);
        }
    }

    private static void meeting() {
        TortoiseShelves x = new TortoiseShelves();
        Due.tipped(x, 9, 0);
        Due.tipped(x, 9, Due.bits(0, 1));
        Due.tipped(x, 9, Due.bits(2, 3, 4));
        d.due("no book is lost", x.hours(1), 5);
        books("three met", x, Due.bits(0, 2), Due.bits(1, 3), Due.bits(4));

        x = new TortoiseShelves();
        Due.tipped(x, 9, Due.bits(0, 1));
        Due.tipped(x, 9, Due.bits(0, 1, 5, 7));
        x.hours(1);
        books("the least that the lesser one lacks", x, Due.bits(0, 1, 5), Due.bits(0, 1, 7));
        x.hours(1);
        books("as many: none goes", x, Due.bits(0, 1, 5), Due.bits(0, 1, 7));

        x = new TortoiseShelves();
        Due.tipped(x, 9, Due.bits(0, 1, 2));
        Due.tipped(x, 9, Due.bits(4));
        Due.tipped(x, 10, Due.bits(4, 5, 6, 7));
        x.hours(1);
        books("never to the greater number, never between cells", x, 7, 16, 240);

        x = new TortoiseShelves();
        x.tortoise(0, 13, 0);
        x.tortoise(0, 15, 6);
        x.hours(1);
        books("they meet where they came to", x, 2, 4);

        x = new TortoiseShelves();
        x.tortoise(Due.YOUNG, 13, 0);
        Due.tipped(x, 13, 6);
        x.hours(1);
        books("they don't meet where they were", x, 0, 6);
    }

    private static void now() {
        TortoiseShelves x = new TortoiseShelves();
        x.tortoise(0, 0, 7);
        x.tortoise(0, 29, 5);
        Due.tipped(x, 29, 64);
        x.rain(1 << 1);
        d.due("now(2), dry", x.now(2), 0);
        d.due("now(3)", x.now(3), 6);
        d.due("now(4)", x.now(4), 71);
        d.due("now(5)", x.now(5), 1 | 1 << 29);
        x.hours(25);
        d.due("now(0)", x.now(0), 25);
        d.due("now(1)", x.now(1), 1);
        d.due("now(2), wet", x.now(2), 1);
        d.due("now(5), gone", x.now(5), 1 << 14 | 1 << 29);
        d.due("now(6)", x.now(6), Due.BEYOND);
        d.due("now(-1)", x.now(-1), Due.BEYOND);
        for (int far : Due.FAR) {
            d.due("now(" + far + ")", x.now(far), Due.BEYOND);
        }
    }

    private static void on() {
        TortoiseShelves x = new TortoiseShelves();
        x.tortoise(0, 13, 0);
        x.tortoise(0, 15, 6);
        d.due("on(0, 0, 1)", x.on(0, 0, 1), 0);
        d.due("on(0, 1, 1)", x.on(0, 1, 1), 2);
        d.due("on(1, 1, 1)", x.on(1, 1, 1), 4);
        d.due("on(1, 72, 0)", x.on(1, 72, 0), 14);
        d.due("on(0, 73, 0)", x.on(0, 73, 0), Due.BEYOND);
        d.due("on(0, -1, 0)", x.on(0, -1, 0), Due.BEYOND);
        d.due("on(0, 1, 2)", x.on(0, 1, 2), Due.BEYOND);
        d.due("on(0, 1, -1)", x.on(0, 1, -1), Due.BEYOND);
        d.due("on(2, 1, 0)", x.on(2, 1, 0), Due.BEYOND);
        d.due("on(-1, 1, 0)", x.on(-1, 1, 0), Due.BEYOND);
        for (int far : Due.FAR) {
            d.due("on(" + far + ", 1, 0)", x.on(far, 1, 0), Due.BEYOND);
            d.due("on(0, " + far + ", 0)", x.on(0, far, 0), Due.BEYOND);
            d.due("on(0, 1, " + far + ")", x.on(0, 1, far), Due.BEYOND);
        }
        d.due("nothing changed: hour", x.now(0), 0);
        d.due("nothing changed: cell", x.of(0, 1), 13);
        d.due("nothing changed: books", x.of(1, 2), 6);
    }

    private static void when() {
        TortoiseShelves x = one(Due.PAMPHLET, 0);
        d.due("when(0, 0)", x.when(0, 0), 0);
        d.due("when(0, 13)", x.when(0, 13), 1);
        d.due("when(0, 12), passed only", x.when(0, 12), Due.NONE);
        d.due("when(0, 14)", x.when(0, 14), 2);
        d.due("when(0, 24)", x.when(0, 24), 22);
        d.due("when(0, 29)", x.when(0, 29), Due.NONE);
        d.due("when(0, 30)", x.when(0, 30), Due.BEYOND);
        d.due("when(0, -1)", x.when(0, -1), Due.BEYOND);
        d.due("when(1, 0)", x.when(1, 0), Due.BEYOND);
        d.due("when(-1, 0)", x.when(-1, 0), Due.BEYOND);
        for (int far : Due.FAR) {
            d.due("when(" + far + ", 0)", x.when(far, 0), Due.BEYOND);
            d.due("when(0, " + far + ")", x.when(0, far), Due.BEYOND);
        }
        // an old one goes one step a day, in the last of the 72 hours or just behind them
        x = one(Due.OLD, 0);
        x.hours(23);
        x.rain(1 << 22);
        d.due("in the 72nd hour", x.when(0, 13), 72);
        d.due("behind the 72nd hour", x.when(0, 14), Due.NONE);
    }

    private static void meet() {
        TortoiseShelves x = new TortoiseShelves();
        x.tortoise(0, 0, 1);
        x.tortoise(Due.YOUNG, 29, 1);
        x.tortoise(Due.OLD, 29, 1);
        x.tortoise(Due.OLD, 0, 1);
        d.due("meet(0, 1)", x.meet(0, 1), 4);
        d.due("meet(1, 0)", x.meet(1, 0), 4);
        d.due("meet(1, 2), now", x.meet(1, 2), 0);
        d.due("meet(2, 3)", x.meet(2, 3), Due.NONE);
        d.due("meet(0, 0)", x.meet(0, 0), Due.BEYOND);
        d.due("meet(0, 4)", x.meet(0, 4), Due.BEYOND);
        d.due("meet(4, 0)", x.meet(4, 0), Due.BEYOND);
        d.due("meet(-1, 0)", x.meet(-1, 0), Due.BEYOND);
        d.due("meet(0, -1)", x.meet(0, -1), Due.BEYOND);
        for (int far : Due.FAR) {
            d.due("meet(" + far + ", 0)", x.meet(far, 0), Due.BEYOND);
            d.due("meet(0, " + far + ")", x.meet(0, far), Due.BEYOND);
        }
        x.hours(2);
        d.due("meet(0, 1), two hours later", x.meet(0, 1), 2);
        d.due("nothing else went", x.now(0), 2);

        x = one(Due.OLD, 0);
        Due.tipped(x, 13, 0);
        Due.tipped(x, 14, 0);
        x.hours(23);
        x.rain(1 << 22);
        d.due("in the 72nd hour", x.meet(0, 1), 72);
        d.due("behind the 72nd hour", x.meet(0, 2), Due.NONE);
    }

    private static void carries() {
        TortoiseShelves x = new TortoiseShelves();
        x.tortoise(0, 13, 0);
        x.tortoise(0, 15, 6);
        x.tortoise(Due.OLD, 0, 2);
        d.due("carries(1, 0)", x.carries(1, 0), 2 | 4);
        d.due("carries(1, 1)", x.carries(1, 1), 1 | 4);
        d.due("carries(2, 72)", x.carries(2, 72), 2);
        d.due("carries(11, 72)", x.carries(11, 72), 0);
        d.due("carries(12, 0)", x.carries(12, 0), Due.BEYOND);
        d.due("carries(-1, 0)", x.carries(-1, 0), Due.BEYOND);
        d.due("carries(0, 73)", x.carries(0, 73), Due.BEYOND);
        d.due("carries(0, -1)", x.carries(0, -1), Due.BEYOND);
        for (int far : Due.FAR) {
            d.due("carries(" + far + ", 0)", x.carries(far, 0), Due.BEYOND);
            d.due("carries(0, " + far + ")", x.carries(0, far), Due.BEYOND);
        }
        d.due("nothing changed", x.of(0, 2), 0);
    }

    /** As many as there may be, so that a step beyond the last one would be seen. */
    private static void eight() {
        TortoiseShelves x = new TortoiseShelves();
        for (int i = 0; i < 8; i++) {
            d.due("tortoise " + i, Due.tipped(x, 20 + i, 1 << i), i);
        }
        x.tortoise(0, 0, 0);
        d.due("hours(1)", x.hours(1), 8);
        d.due("now(3)", x.now(3), 8);
        d.due("now(4)", x.now(4), 255);
        d.due("now(5)", x.now(5), 255 << 20);
        d.due("count(3)", x.count(3), 8);
        d.due("carries(7, 72)", x.carries(7, 72), 128);
        d.due("cell(27, 1)", x.cell(27, 1), 128);
        d.due("cell(27, 2)", x.cell(27, 2), 128);
        d.due("on(7, 9, 0)", x.on(7, 9, 0), 27);
        d.due("meet(6, 7)", x.meet(6, 7), Due.NONE);
        d.due("soonest(29, 7)", x.soonest(29, 7), 2);
        d.due("many(29, 48)", x.many(29, 48), 8);
        d.due("tips(0, 0)", x.tips(0, 0), Due.NONE);
        x.set(7, 3, 0);
        d.due("count(3), one upright", x.count(3), 7);
        d.due("tips(29, 7)", x.tips(29, 7), 7);
        d.due("kind(7, 14)", x.kind(7, 14), Due.PAMPHLET);
    }
}
