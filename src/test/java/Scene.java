import java.util.ArrayList;
import java.util.List;

/** Objects to begin with, each made anew by the same calls, and all that can be asked of one. */
final class Scene {
    static final int BUSY_RAIN = Due.bits(0, 5, 23);
    static final String BUSY_TEXT = "fence 3;rain 7 to 9;spring 2";

    private Scene() {
    }

    /** Something of everything, at HOUR 5, in the rain: six tortoises, three sheets, a tape, an image of before. */
    static TortoiseShelves busy() {
        TortoiseShelves x = new TortoiseShelves();
        x.hours(2);
        x.tortoise(Due.YOUNG, 5, 96);
        x.fence(20, 1);
        x.spot(0, 9);
        x.image();
        x.set(0, 2, Due.bits(0, 1));
        x.set(0, 1, 0);
        x.turn(0, Due.TORTOISE);
        x.set(0, 3, 1);
        x.hours(3);
        x.set(0, 3, 0);
        x.tortoise(Due.YOUNG, 0, Due.bits(2));
        x.tortoise(Due.LAW, 12, Due.bits(3, 4, 5));
        x.tortoise(Due.OLD, 29, Due.bits(6));
        x.tortoise(Due.PAMPHLET, 24, Due.bits(11));
        x.tortoise(Due.CANON, 7, Due.bits(10));
        x.set(5, 3, 1);
        x.fence(20, 0);
        x.fence(8, 1);
        x.fence(29, 1);
        x.spot(0, 15);
        x.spot(1, 2);
        x.spot(2, 25);
        x.rain(BUSY_RAIN);
        sheet(x, 0, 8, 1, -2, 3);
        sheet(x, 1, 16, 100, 200, 300, 4000);
        sheet(x, 2, 64, 1L << 40, -5);
        Due.feed(x, BUSY_TEXT);
        return x;
    }

    /** As busy, with as many tortoises as there may be. */
    static TortoiseShelves fullHouse() {
        TortoiseShelves x = busy();
        x.tortoise(Due.TORTOISE, 17, Due.bits(7));
        x.tortoise(Due.LAW, 17, Due.bits(8, 9));
        return x;
    }

    /** As busy, without an image. */
    static TortoiseShelves torn() {
        TortoiseShelves x = busy();
        x.tear();
        return x;
    }

    /** As busy, with so many bytes on the tape (112 at least): a text of 15 items as far as it goes. */
    static TortoiseShelves taped(int bytes) {
        TortoiseShelves x = busy();
        x.wipe();
        Due.feed(x, ("free 20;".repeat(14) + "free 20 ").substring(0, bytes));
        return x;
    }

    /** Six of them in cell 9; the first and the last have SUBJECTS 0 and 11, one in the midst has SUBJECT 1. */
    static TortoiseShelves herd() {
        TortoiseShelves x = new TortoiseShelves();
        for (int i = 0; i < 6; i++) {
            x.tortoise(Due.TORTOISE, 9, i == 0 || i == 5 ? Due.bits(0, 11) : i == 3 ? Due.bits(1) : 0);
        }
        return x;
    }

    /** A pamphlet in 0 at its spring, which goes to a beach in 29 by night. */
    static TortoiseShelves commuter() {
        TortoiseShelves x = new TortoiseShelves();
        x.spot(0, 0);
        x.spot(2, 29);
        x.tortoise(Due.PAMPHLET, 0, Due.bits(0, 11));
        return x;
    }

    /** Tipped ones in two corners, with SUBJECT 5 both, and with one that the other one lacks. */
    static TortoiseShelves still() {
        TortoiseShelves x = new TortoiseShelves();
        Due.tipped(x, 0, Due.bits(0, 5));
        Due.tipped(x, 29, Due.bits(5, 11));
        return x;
    }

    /** As still, with a fence round nothing but the cell 9. */
    static TortoiseShelves stillAndFenced() {
        TortoiseShelves x = still();
        x.fence(9, 1);
        return x;
    }

    /** A young one in 3 that runs to its spring in 27. */
    static TortoiseShelves runner() {
        TortoiseShelves x = new TortoiseShelves();
        x.spot(0, 27);
        x.tortoise(Due.YOUNG, 3, Due.bits(0, 11));
        return x;
    }

    /** At an HOUR from 9936 to 9999. */
    static TortoiseShelves late(int hour) {
        TortoiseShelves x = new TortoiseShelves();
        x.tortoise(Due.LAW, 14, Due.bits(0));
        x.tortoise(Due.OLD, 29, Due.bits(3, 4));
        for (int i = 0; i < 138; i++) {
            x.hours(72);
        }
        if (hour > 9936) {
            x.hours(hour - 9936);
        }
        return x;
    }

    /** An old one in 0 that goes by 6, 12, 13 to 14, one step at each CLOCK 0 (the only one at which it rains). */
    static TortoiseShelves daily(int hour) {
        TortoiseShelves x = new TortoiseShelves();
        if (hour > 0) {
            x.hours(hour);
        }
        x.rain(1);
        x.tortoise(Due.OLD, 0, Due.bits(0, 1));
        return x;
    }

    /**
     * One in 5 next to its fenced spring, with rain at 9 and at 12. As CANON it comes to rest in 10 on the first
     * day and in 3 on the second, and on the third it is in 14 behind CLOCK 17; as another KIND it never is.
     */
    static TortoiseShelves threeDays(int hour, int kind) {
        TortoiseShelves x = new TortoiseShelves();
        x.hours(hour);
        x.fence(4, 1);
        x.spot(0, 4);
        x.spot(1, 24);
        x.spot(2, 10);
        x.rain(Due.bits(9, 12));
        x.tortoise(kind, 5, Due.bits(0));
        return x;
    }

    static void sheet(TortoiseShelves x, int s, int bits, long... numbers) {
        x.sheet(s, bits, numbers.length);
        for (int i = 0; i < numbers.length; i++) {
            x.write(s, i, numbers[i]);
        }
    }

    /** What can be asked of an object but status(), as lines; it is used up by that. */
    static List<String> portrait(TortoiseShelves x) {
        List<String> lines = new ArrayList<>();
        isle(x, "now", lines);
        later(x, lines);
        sheets(x, lines);
        lines.add("bytes " + x.count(1));
        lines.add("island() " + x.island());
        lines.add("fences told " + x.count(2) + ", rain " + x.rain(0) + ", spring " + x.spot(0, 0));
        lines.add("undo() " + x.undo());
        isle(x, "undone", lines);
        return lines;
    }

    private static void isle(TortoiseShelves x, String name, List<String> lines) {
        for (int c = 0; c < 30; c++) {
            lines.add(name + ": cell " + c + ": " + x.cell(c, 0) + " " + x.cell(c, 1));
        }
        int size = x.count(0);
        lines.add(name + ": " + size + " tortoises");
        for (int t = 0; t < size; t++) {
            for (int what = 0; what <= 5; what++) {
                lines.add(name + ": of(" + t + ", " + what + ") " + x.of(t, what));
            }
        }
        for (int what = 0; what <= 5; what++) {
            lines.add(name + ": now(" + what + ") " + x.now(what));
        }
        for (int spot = 0; spot < 3; spot++) {
            int was = x.spot(spot, 0);
            x.spot(spot, was);
            lines.add(name + ": spot " + spot + ": " + was);
        }
        int rain = x.rain(0);
        x.rain(rain);
        lines.add(name + ": rain " + rain);
    }

    private static void later(TortoiseShelves x, List<String> lines) {
        for (int t = 0; t < x.count(0); t++) {
            lines.add("on(" + t + ", 30) " + x.on(t, 30, 0) + " " + x.on(t, 30, 1));
        }
    }

    private static void sheets(TortoiseShelves x, List<String> lines) {
        for (int s = 0; s < 4; s++) {
            for (int i = 0; i <= 40; i++) {
                long was = x.write(s, i, 0x1234567812345678L);
                lines.add("sheet " + s + ", number " + i + ": " + was);
                if (was == Due.MISSING || was == Due.BEYOND) {
                    break;
                }
            }
            // the number that was just put in tells how many bits it has
            lines.add("sheet " + s + " holds " + x.write(s, 0, 0));
        }
    }
}
