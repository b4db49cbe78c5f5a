/** Promises 25 to 27: tips, spring, kind. */
public final class HelpTest {
    private static final Due d = new Due();

    public static void main(String[] args) {
        tips();
        neverButByTipping();
        spring();
        kind();
        kindByNight();
        wrongInputs();
        d.end();
    }

    /** A young one in 3 that runs down to 27; it has SUBJECT 0. */
    private static TortoiseShelves runner() {
        TortoiseShelves x = new TortoiseShelves();
        x.spot(0, 27);
        x.tortoise(Due.YOUNG, 3, 1);
        return x;
    }

    private static void tips() {
        TortoiseShelves x = runner();
        d.due("as it runs", x.soonest(0, 0), 7);
        d.due("tipped, it waits for him", x.tips(0, 0), 0);
        d.due("it isn't tipped by that", x.of(0, 3), 0);
        d.due("no sooner from 27", x.tips(27, 0), Due.NONE);
        d.due("nobody has it", x.tips(0, 5), Due.NONE);
        x.set(0, 3, 1);
        d.due("it is tipped already", x.tips(0, 0), Due.NONE);
        x.set(0, 3, 0);
        x.tortoise(Due.YOUNG, 3, 1);
        d.due("of several the least", x.tips(0, 0), 0);
        x.tortoise(Due.YOUNG, 2, 1);
        d.due("the soonest", x.tips(0, 0), 2);
        x.fence(0, 1);
        d.due("the reader's is fenced", x.tips(0, 0), Due.STATE);

        x = runner();
        for (int cell : new int[] {18, 19, 20, 22, 23}) {
            x.fence(cell, 1);
        }
        x.set(0, 1, 15);
        d.due("behind a gap in the fences", x.soonest(0, 0), 7);
        d.due("tipped ahead of the gap", x.tips(0, 0), 0);
        x.fence(15, 1);
        d.due("no use in tipping it in a fence", x.tips(0, 0), Due.NONE);
        x.fence(21, 1);
        x.fence(14, 1);
        d.due("never as it is, nor tipped", x.tips(0, 0), Due.NONE);

        // 1 brings SUBJECT 0 to 14, where 0 takes it
        x = new TortoiseShelves();
        x.tortoise(Due.YOUNG, 12, 0);
        x.tortoise(Due.YOUNG, 16, 1);
        d.due("whoever has it then", x.soonest(26, 0), 2);
        d.due("no sooner by either", x.tips(26, 0), Due.NONE);
    }

    /** A pamphlet goes south from the wall by night, unless it is tipped and its book goes to an old one. */
    private static void neverButByTipping() {
        TortoiseShelves x = new TortoiseShelves();
        for (int cell = 12; cell < 18; cell++) {
            x.fence(cell, 1);
        }
        x.spot(0, 2);
        x.spot(2, 26);
        x.hours(20);
        x.rain(1 << 22);
        x.tortoise(Due.OLD, 14, 0);
        x.tortoise(Due.PAMPHLET, 14, 1);
        d.due("never as it is", x.soonest(8, 0), Due.NONE);
        d.due("tipped, it gives the book away", x.tips(8, 0), 1);
        x.set(1, 3, 1);
        d.due("then the old one comes out in the rain", x.soonest(8, 0), 3);
    }

    private static void spring() {
        TortoiseShelves x = runner();
        d.due("it comes to him", x.spring(0, 0), 0);
        d.due("spring as it was", x.spot(0, 27), 27);
        x.fence(1, 1);
        // no way by 2 and 1, so the soonest is in two hours, by way of row 1
        d.due("by another row", x.spring(0, 0), 6);
        d.due("from its own cell all do: the least", x.spring(3, 0), 0);
        x.fence(0, 1);
        d.due("from its own cell, 0 and 1 fenced", x.spring(3, 0), 2);
        d.due("the reader's is fenced", x.spring(0, 0), Due.STATE);
        d.due("nobody has it", x.spring(3, 5), Due.NONE);

        x = new TortoiseShelves();
        Due.tipped(x, 29, 1);
        d.due("springs don't move a tipped one", x.spring(0, 0), 0);
        x.fence(29, 1);
        d.due("by none", x.spring(0, 0), Due.NONE);

        x = new TortoiseShelves();
        x.tortoise(Due.TORTOISE, 29, 1);
        x.fence(29, 1);
        d.due("out of its fence: the least that draws it up", x.spring(23, 0), 0);
        d.due("from 28: by the column alone", x.spring(28, 0), 24);
    }

    private static void kind() {
        TortoiseShelves x = new TortoiseShelves();
        x.tortoise(Due.TORTOISE, 0, 1);
        d.due("young before pamphlet", x.kind(0, 14), Due.YOUNG);
        d.due("pamphlet alone stops there", x.kind(0, 13), Due.PAMPHLET);
        d.due("young in 12", x.kind(0, 12), Due.YOUNG);
        d.due("as whatever it is there now", x.kind(0, 0), Due.TORTOISE);
        d.due("tortoise in 6", x.kind(0, 6), Due.TORTOISE);
        d.due("at the beach by night", x.kind(0, 24), Due.PAMPHLET);
        d.due("in the shade at noon", x.kind(0, 3), Due.LAW);
        d.due("nobody gets there", x.kind(0, 29), Due.NONE);
        x.rain(15);
        d.due("canon in the rain", x.kind(0, 24), Due.CANON);
        d.due("kind as it was", x.of(0, 0), Due.TORTOISE);
        x.set(0, 3, 1);
        d.due("tipped", x.kind(0, 14), Due.NONE);
        d.due("tipped, there", x.kind(0, 0), Due.TORTOISE);
        x.set(0, 3, 0);
        x.turn(0, Due.PAMPHLET);
        d.due("its own kind doesn't matter", x.kind(0, 6), Due.TORTOISE);
    }

    /** At clock 23 a pamphlet still aims at the beach, so it loses an hour. */
    private static void kindByNight() {
        TortoiseShelves x = new TortoiseShelves();
        x.spot(0, 24);
        x.spot(2, 0);
        x.tortoise(Due.OLD, 0, 1);
        x.hours(23);
        d.due("tortoise in 6", x.kind(0, 6), Due.TORTOISE);
        d.due("young in 12", x.kind(0, 12), Due.YOUNG);
        d.due("pamphlet in 18", x.kind(0, 18), Due.PAMPHLET);
        d.due("young in 24", x.kind(0, 24), Due.YOUNG);
    }

    private static void wrongInputs() {
        TortoiseShelves x = new TortoiseShelves();
        x.tortoise(0, 0, 4095);
        x.fence(9, 1);
        for (int c : new int[] {-1, 30, Integer.MIN_VALUE, Integer.MAX_VALUE, 32}) {
            d.due("tips(" + c + ", 0)", x.tips(c, 0), Due.BEYOND);
            d.due("spring(" + c + ", 0)", x.spring(c, 0), Due.BEYOND);
            d.due("kind(0, " + c + ")", x.kind(0, c), Due.BEYOND);
        }
        for (int s : new int[] {-1, 12, Integer.MIN_VALUE, Integer.MAX_VALUE, 32}) {
            d.due("tips(9, " + s + ")", x.tips(9, s), Due.BEYOND);
            d.due("spring(9, " + s + ")", x.spring(9, s), Due.BEYOND);
            d.due("kind(" + s + ", 0)", x.kind(s, 0), Due.BEYOND);
        }
        d.due("kind(1, 0)", x.kind(1, 0), Due.BEYOND);
        d.due("tips(9, 0)", x.tips(9, 0), Due.STATE);
        d.due("spring(9, 0)", x.spring(9, 0), Due.STATE);
    }
}
