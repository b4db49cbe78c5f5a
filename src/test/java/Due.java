import java.nio.charset.StandardCharsets;

/** Counts and prints the calls whose answer isn't the one that is due. */
final class Due {
    static final int BEYOND = -1000000001;
    static final int FULL = -1000000002;
    static final int KIND = -1000000003;
    static final int NONE = -1000000004;
    static final int STATE = -1000000005;
    static final int MISSING = -1000000006;
    static final int SIZE = -1000000007;

    static final int TORTOISE = 0;
    static final int YOUNG = 1;
    static final int LAW = 2;
    static final int OLD = 3;
    static final int PAMPHLET = 4;
    static final int CANON = 5;

    /** Values that no small range has in it. */
    static final int[] FAR = {Integer.MIN_VALUE, -1000000001, -2, 1000, 1 << 30, Integer.MAX_VALUE};

    private int wrong;

    void due(String call, long got, long want) {
        if (got != want) {
            wrong++;
            System.out.println(call + " answered " + got + ", due is " + want);
        }
    }

    /** Ends the test, with exit code 1 if an answer was wrong. */
    void end() {
        if (wrong != 0) {
            System.out.println(wrong + " answers are not as due");
            System.exit(1);
        }
        System.out.println("all answers are as due");
    }

    /** Feeds a text in fours, and what is left over behind them. */
    static void feed(TortoiseShelves x, String text) {
        byte[] bytes = text.getBytes(StandardCharsets.ISO_8859_1);
        for (int at = 0; at < bytes.length; at += 4) {
            int n = Math.min(4, bytes.length - at);
            int fed = 0;
            for (int i = 0; i < n; i++) {
                fed = fed << 8 | bytes[at + i] & 255;
            }
            x.feed(fed, n);
        }
    }

    /** What island() answers to a text on an empty tape. */
    static int island(TortoiseShelves x, String text) {
        x.wipe();
        feed(x, text);
        return x.island();
    }

    /** A tortoise that stays where it is. */
    static int tipped(TortoiseShelves x, int cell, int books) {
        int number = x.tortoise(TORTOISE, cell, books);
        x.set(number, 3, 1);
        return number;
    }

    static int bits(int... members) {
        int set = 0;
        for (int member : members) {
            set |= 1 << member;
        }
        return set;
    }
}
