/**
 * A library whose books graze on the backs of tortoises: an island of thirty cells, its hours,
 * its readers, its text, its sheets and its images.
 */
public final class TortoiseShelves {
    private static final int BEYOND = 0;
    private static final int FULL = 1;
    private static final int OTHER_KIND = 2;
    private static final int NONE = 3;
    private static final int STATE = 4;
    private static final int MISSING = 5;
    private static final int SIZE = 6;
    private static final int FINDINGS = 7;
    private static final int FIRST_FINDING = -1000000001;
    private static final int NO_FINDING = 0;

    private static final int COLUMNS = 6;
    private static final int CELLS = 30;
    private static final int ALL_CELLS = (1 << CELLS) - 1;
    private static final int LEFT_COLUMN = 1 | 1 << 6 | 1 << 12 | 1 << 18 | 1 << 24;
    private static final int RIGHT_COLUMN = LEFT_COLUMN << 5;

    private static final int SPRING = 0;
    private static final int SHADE = 1;
    private static final int BEACH = 2;
    private static final int SPOTS = 3;

    private static final int CLOCKS = 24;
    private static final int ALL_CLOCKS = (1 << CLOCKS) - 1;
    private static final int LAST_HOUR = 9999;
    private static final int FORESEEN = 72;
    private static final int READERS_HOURS = 48;
    private static final int NEVER = -1;
    private static final int CENSORED = 99;

    private static final int TORTOISE = 0;
    private static final int YOUNG = 1;
    private static final int LAW = 2;
    private static final int OLD = 3;
    private static final int PAMPHLET = 4;
    private static final int CANON = 5;
    private static final int KINDS = 6;
    private static final int NO_KIND = -1;
    private static final int[] KIND_ABOVE = {NO_KIND, TORTOISE, TORTOISE, TORTOISE, YOUNG, LAW};

    private static final int MOST_TORTOISES = 8;
    private static final int SUBJECTS = 12;
    private static final int ALL_SUBJECTS = (1 << SUBJECTS) - 1;

    private static final int TAPE_BYTES = 120;
    private static final int MOST_FED = 4;
    private static final int SHEETS = 4;
    private static final int SHEET_NUMBERS = 40;

    private final Island isle;
    private final Island ahead;
    private final Island kept;
    private final Reader reader;
    private final Tape tape;
    private final Sheet[] sheets;
    private final int[] found;
    private boolean keeps;

    public TortoiseShelves() {
        isle = new Island();
        ahead = new Island();
        kept = new Island();
        reader = new Reader();
        tape = new Tape();
        sheets = new Sheet[SHEETS];
        for (int s = 0; s < SHEETS; s++) {
            sheets[s] = new Sheet();
        }
        found = new int[FINDINGS];
        keeps = false;
    }

    // ---- the island

    public int fence(int cell, int v) {
        if (!isCell(cell) || !isFlag(v)) {
            return finding(BEYOND);
        }
        int was = isle.isFenced(cell) ? 1 : 0;
        isle.fences(cell, v == 1);
        return was;
    }

    public int spot(int what, int cell) {
        if (!isBelow(what, SPOTS) || !isCell(cell)) {
            return finding(BEYOND);
        }
        int was = isle.spots[what];
        isle.spots[what] = cell;
        return was;
    }

    public int rain(int set) {
        if (!isSetOf(set, ALL_CLOCKS)) {
            return finding(BEYOND);
        }
        int was = isle.wetClocks;
        isle.wetClocks = set;
        return was;
    }

    public int cell(int cell, int what) {
        if (!isCell(cell)) {
            return finding(BEYOND);
        }
        switch (what) {
            case 0:
                return isle.isFenced(cell) ? 1 : 0;
            case 1:
                return isle.tortoisesIn(cell);
            case 2:
                return isle.subjectsIn(1 << cell);
            default:
                return finding(BEYOND);
        }
    }

    // ---- tortoises

    public int tortoise(int kind, int cell, int books) {
        if (!isKind(kind) || !isCell(cell) || !isSetOf(books, ALL_SUBJECTS)) {
            return finding(BEYOND);
        }
        if (isle.isFull()) {
            return finding(FULL);
        }
        return isle.comes(kind, cell, books);
    }

    public int of(int tortoise, int what) {
        if (!isle.has(tortoise)) {
            return finding(BEYOND);
        }
        switch (what) {
            case 0:
                return isle.kinds[tortoise];
            case 1:
                return isle.cells[tortoise];
            case 2:
                return isle.books[tortoise];
            case 3:
                return isle.tipped[tortoise] ? 1 : 0;
            case 4:
                return isle.aimOf(tortoise);
            case 5:
                return isle.paceOf(tortoise);
            default:
                return finding(BEYOND);
        }
    }

    public int set(int tortoise, int what, int v) {
        if (!isle.has(tortoise)) {
            return finding(BEYOND);
        }
        if (what == 1 && isCell(v)) {
            int was = isle.cells[tortoise];
            isle.cells[tortoise] = v;
            return was;
        }
        if (what == 2 && isSetOf(v, ALL_SUBJECTS)) {
            int was = isle.books[tortoise];
            isle.books[tortoise] = v;
            return was;
        }
        if (what == 3 && isFlag(v)) {
            int was = isle.tipped[tortoise] ? 1 : 0;
            isle.tipped[tortoise] = v == 1;
            return was;
        }
        return finding(BEYOND);
    }

    public int turn(int tortoise, int kind) {
        if (!isle.has(tortoise) || !isKind(kind)) {
            return finding(BEYOND);
        }
        int was = isle.kinds[tortoise];
        isle.kinds[tortoise] = kind;
        return was;
    }

    public int as(int tortoise, int kind) {
        if (!isle.has(tortoise) || !isKind(kind)) {
            return finding(BEYOND);
        }
        if (!isUnder(isle.kinds[tortoise], kind)) {
            return finding(OTHER_KIND);
        }
        return isle.books[tortoise];
    }

    public int lend(int tortoise, int other, int subject) {
        if (!areTwo(tortoise, other) || !isSubject(subject)) {
            return finding(BEYOND);
        }
        if (isle.cells[tortoise] != isle.cells[other]) {
            return finding(STATE);
        }
        int book = 1 << subject;
        if ((isle.books[tortoise] & book) == 0 || (isle.books[other] & book) != 0) {
            return finding(NONE);
        }
        isle.handsOver(tortoise, other, book);
        return 1;
    }

    // ---- hours

    public int hours(int n) {
        if (n < 1 || n > FORESEEN) {
            return finding(BEYOND);
        }
        if (isle.hour + n > LAST_HOUR) {
            return finding(STATE);
        }
        isle.goHours(n);
        return isle.booksOfAll();
    }

    public int now(int what) {
        switch (what) {
            case 0:
                return isle.hour;
            case 1:
                return isle.clock();
            case 2:
                return isle.rainsAt(isle.clock()) ? 1 : 0;
            case 3:
                return isle.booksOfAll();
            case 4:
                return isle.subjectsIn(ALL_CELLS);
            case 5:
                return isle.cellsOf(isle.allTortoises());
            default:
                return finding(BEYOND);
        }
    }

    public int on(int tortoise, int n, int what) {
        if (!isle.has(tortoise) || !isForeseen(n) || !isFlag(what)) {
            return finding(BEYOND);
        }
        ahead.becomes(isle);
        ahead.goHours(n);
        return what == 0 ? ahead.cells[tortoise] : ahead.books[tortoise];
    }

    public int when(int tortoise, int cell) {
        if (!isle.has(tortoise) || !isCell(cell)) {
            return finding(BEYOND);
        }
        ahead.becomes(isle);
        return hoursOrNone(ahead.hoursTill(tortoise, cell, FORESEEN));
    }

    public int meet(int tortoise, int other) {
        if (!areTwo(tortoise, other)) {
            return finding(BEYOND);
        }
        ahead.becomes(isle);
        return hoursOrNone(ahead.hoursTillTogether(tortoise, other, FORESEEN));
    }

    public int carries(int subject, int n) {
        if (!isSubject(subject) || !isForeseen(n)) {
            return finding(BEYOND);
        }
        ahead.becomes(isle);
        ahead.goHours(n);
        return ahead.tortoisesWith(subject);
    }

    // ---- readers

    public int soonest(int cell, int subject) {
        int asked = askOfReader(cell, subject);
        if (asked != NO_FINDING) {
            return asked;
        }
        reader.goesFrom(cell, isle);
        return hoursOrNone(reader.seek(subject, READERS_HOURS));
    }

    public int where(int cell, int subject) {
        int asked = askOfReader(cell, subject);
        if (asked != NO_FINDING) {
            return asked;
        }
        reader.goesFrom(cell, isle);
        return placeOrNone(reader.seek(subject, READERS_HOURS));
    }

    public int waits(int cell, int subject) {
        int asked = askOfReader(cell, subject);
        if (asked != NO_FINDING) {
            return asked;
        }
        reader.staysInOneOf(1 << cell, isle);
        return hoursOrNone(reader.seek(subject, READERS_HOURS));
    }

    public int waterhole(int subject) {
        if (!isSubject(subject)) {
            return finding(BEYOND);
        }
        reader.staysInOneOf(ALL_CELLS & ~isle.fencedCells, isle);
        return placeOrNone(reader.seek(subject, READERS_HOURS));
    }

    public int many(int cell, int n) {
        if (!isCell(cell) || n < 0 || n > READERS_HOURS) {
            return finding(BEYOND);
        }
        if (isle.isFenced(cell)) {
            return finding(STATE);
        }
        reader.goesFrom(cell, isle);
        return Integer.bitCount(reader.subjectsWithin(n));
    }

    public int both(int cell, int one, int other) {
        if (!isSubject(other) || one == other) {
            return finding(BEYOND);
        }
        int asked = askOfReader(cell, one);
        if (asked != NO_FINDING) {
            return asked;
        }
        reader.goesFrom(cell, isle);
        return hoursOrNone(reader.seekTwo(one, other, READERS_HOURS));
    }

    public int censors(int cell, int subject, int fenced) {
        if (!isCell(fenced) || fenced == cell) {
            return finding(BEYOND);
        }
        int asked = askOfReader(cell, subject);
        if (asked != NO_FINDING) {
            return asked;
        }
        reader.goesFrom(cell, isle);
        int free = reader.seek(subject, READERS_HOURS);
        if (free == NEVER) {
            return finding(NONE);
        }
        reader.goesFrom(cell, isle);
        reader.isle.fences(fenced, true);
        int censored = reader.seek(subject, READERS_HOURS);
        return censored == NEVER ? CENSORED : censored - free;
    }

    // ---- what helps

    public int tips(int cell, int subject) {
        int asked = askOfReader(cell, subject);
        if (asked != NO_FINDING) {
            return asked;
        }
        int best = bestTipped(cell, subject);
        return best == NEVER ? finding(NONE) : best;
    }

    public int spring(int cell, int subject) {
        int asked = askOfReader(cell, subject);
        if (asked != NO_FINDING) {
            return asked;
        }
        int best = bestSpring(cell, subject);
        return best == NEVER ? finding(NONE) : best;
    }

    public int kind(int tortoise, int cell) {
        if (!isle.has(tortoise) || !isCell(cell)) {
            return finding(BEYOND);
        }
        int best = bestKind(tortoise, cell);
        return best == NEVER ? finding(NONE) : best;
    }

    // ---- the text

    public int feed(int bytes, int n) {
        if (n < 1 || n > MOST_FED) {
            return finding(BEYOND);
        }
        if (tape.length + n > TAPE_BYTES) {
            return finding(FULL);
        }
        tape.takes(bytes, n);
        return tape.length;
    }

    public int wipe() {
        int had = tape.length;
        tape.length = 0;
        return had;
    }

    public int island() {
        // told to a copy, so that a fault in a late item takes the early ones back
        ahead.becomes(isle);
        int items = tape.tellsTo(ahead);
        tape.length = 0;
        if (items > 0) {
            isle.becomes(ahead);
        }
        return items;
    }

    // ---- sheets

    public int sheet(int s, int bits, int n) {
        if (!isBelow(s, SHEETS) || bits != 0 && bits != 8 && bits != 16 && bits != 64) {
            return finding(BEYOND);
        }
        if (n < 0) {
            return finding(SIZE);
        }
        if (n > SHEET_NUMBERS) {
            return finding(BEYOND);
        }
        sheets[s].becomesBlank(bits, bits == 0 ? 0 : n);
        return sheets[s].length;
    }

    public long write(int s, int i, long v) {
        int asked = askOfSheet(s);
        if (asked != NO_FINDING) {
            return asked;
        }
        Sheet sheet = sheets[s];
        if (!isBelow(i, sheet.length)) {
            return finding(BEYOND);
        }
        long was = sheet.numbers[i];
        sheet.numbers[i] = sheet.lowestBits(v);
        return was;
    }

    public int copy(int s, int from, int t, int to, int n) {
        if (!isBelow(s, SHEETS) || !isBelow(t, SHEETS)) {
            return finding(BEYOND);
        }
        Sheet source = sheets[s];
        Sheet target = sheets[t];
        if (source.isMissing() || target.isMissing()) {
            return finding(MISSING);
        }
        if (source.bits != target.bits) {
            return finding(OTHER_KIND);
        }
        if (!source.hasFrom(from, n) || !target.hasFrom(to, n)) {
            return finding(BEYOND);
        }
        System.arraycopy(source.numbers, from, target.numbers, to, n);
        return n;
    }

    public int lays(int s) {
        int asked = askOfSheet(s);
        if (asked != NO_FINDING) {
            return asked;
        }
        return laysBooks(sheets[s]);
    }

    public int book(int s, int tortoise) {
        int asked = askOfSheet(s);
        if (asked != NO_FINDING) {
            return asked;
        }
        Sheet sheet = sheets[s];
        if (!isle.has(tortoise)) {
            return finding(BEYOND);
        }
        ahead.becomes(isle);
        for (int i = 0; i < sheet.length; i++) {
            sheet.numbers[i] = ahead.cells[tortoise];
            ahead.goAlone(tortoise);
        }
        return sheet.length;
    }

    public int read(int s, int tortoise) {
        int asked = askOfSheet(s);
        if (asked != NO_FINDING) {
            return asked;
        }
        if (!isle.has(tortoise)) {
            return finding(BEYOND);
        }
        int pairs = 0;
        for (int kind = 0; kind < KINDS; kind++) {
            for (int cell = 0; cell < CELLS; cell++) {
                ahead.becomes(isle);
                ahead.kinds[tortoise] = kind;
                ahead.spots[SPRING] = cell;
                pairs += ahead.goesAsIn(sheets[s], tortoise) ? 1 : 0;
            }
        }
        return pairs;
    }

    // ---- images

    public int image() {
        kept.becomes(isle);
        keeps = true;
        return 1;
    }

    public int undo() {
        if (!keeps) {
            return finding(NONE);
        }
        isle.becomes(kept);
        return isle.size;
    }

    public int tear() {
        int was = keeps ? 1 : 0;
        keeps = false;
        return was;
    }

    public int count(int what) {
        switch (what) {
            case 0:
                return isle.size;
            case 1:
                return tape.length;
            case 2:
                return Integer.bitCount(isle.fencedCells);
            case 3:
                return isle.tippedOnes();
            default:
                return finding(BEYOND);
        }
    }

    public int status(int which) {
        if (which == -1) {
            int all = 0;
            for (int f = 0; f < FINDINGS; f++) {
                all += found[f];
            }
            return all;
        }
        return isBelow(which, FINDINGS) ? found[which] : finding(BEYOND);
    }

    // ---- what several calls use

    private int finding(int which) {
        found[which]++;
        return FIRST_FINDING - which;
    }

    private int askOfReader(int cell, int subject) {
        if (!isCell(cell) || !isSubject(subject)) {
            return finding(BEYOND);
        }
        return isle.isFenced(cell) ? finding(STATE) : NO_FINDING;
    }

    private int askOfSheet(int s) {
        if (!isBelow(s, SHEETS)) {
            return finding(BEYOND);
        }
        return sheets[s].isMissing() ? finding(MISSING) : NO_FINDING;
    }

    private int hoursOrNone(int hours) {
        return hours == NEVER ? finding(NONE) : hours;
    }

    private int placeOrNone(int hours) {
        return hours == NEVER ? finding(NONE) : least(reader.readsIn);
    }

    private boolean areTwo(int tortoise, int other) {
        return isle.has(tortoise) && isle.has(other) && tortoise != other;
    }

    private int bestTipped(int cell, int subject) {
        reader.goesFrom(cell, isle);
        int soonestYet = reader.seek(subject, READERS_HOURS);
        if (soonestYet == NEVER) {
            soonestYet = READERS_HOURS + 1;
        }
        int best = NEVER;
        for (int i = 0; i < isle.size; i++) {
            if (isle.tipped[i]) {
                continue;
            }
            reader.goesFrom(cell, isle);
            reader.isle.tipped[i] = true;
            // only what is sooner than the best so far counts, so the search may end there
            int hours = reader.seek(subject, soonestYet - 1);
            if (hours != NEVER) {
                soonestYet = hours;
                best = i;
            }
        }
        return best;
    }

    private int bestSpring(int cell, int subject) {
        int soonestYet = READERS_HOURS + 1;
        int best = NEVER;
        for (int spring = 0; spring < CELLS; spring++) {
            if (isle.isFenced(spring)) {
                continue;
            }
            reader.goesFrom(cell, isle);
            reader.isle.spots[SPRING] = spring;
            int hours = reader.seek(subject, soonestYet - 1);
            if (hours != NEVER) {
                soonestYet = hours;
                best = spring;
            }
        }
        return best;
    }

    private int bestKind(int tortoise, int cell) {
        int soonestYet = FORESEEN + 1;
        int best = NEVER;
        for (int kind = 0; kind < KINDS; kind++) {
            ahead.becomes(isle);
            ahead.kinds[tortoise] = kind;
            int hours = ahead.hoursTill(tortoise, cell, soonestYet - 1);
            if (hours != NEVER) {
                soonestYet = hours;
                best = kind;
            }
        }
        return best;
    }

    private int laysBooks(Sheet sheet) {
        int came = 0;
        for (int i = 0; i < sheet.length && i < isle.size; i++) {
            long books = sheet.numbers[i];
            if (books >= 0 && books <= ALL_SUBJECTS) {
                isle.books[i] = (int) books;
                came++;
            }
        }
        return came;
    }

    private static boolean isBelow(int value, int bound) {
        return value >= 0 && value < bound;
    }

    private static boolean isCell(int cell) {
        return isBelow(cell, CELLS);
    }

    private static boolean isSubject(int subject) {
        return isBelow(subject, SUBJECTS);
    }

    private static boolean isKind(int kind) {
        return isBelow(kind, KINDS);
    }

    private static boolean isFlag(int v) {
        return v == 0 || v == 1;
    }

    private static boolean isForeseen(int n) {
        return n >= 0 && n <= FORESEEN;
    }

    private static boolean isSetOf(int set, int all) {
        return (set & ~all) == 0;
    }

    private static boolean isUnder(int kind, int above) {
        int at = kind;
        for (int depth = 0; depth < KINDS && at != NO_KIND; depth++) {
            if (at == above) {
                return true;
            }
            at = KIND_ABOVE[at];
        }
        return false;
    }

    /** The least member of a set that has one. */
    private static int least(int set) {
        return Integer.bitCount((set & -set) - 1);
    }

    /** All that section 1 of the document tells, but for the tape. */
    private static final class Island {
        private int fencedCells;
        private int wetClocks;
        private int hour;
        private int size;
        private final int[] spots = {14, 3, 24};
        private final int[] kinds = new int[MOST_TORTOISES];
        private final int[] cells = new int[MOST_TORTOISES];
        private final int[] books = new int[MOST_TORTOISES];
        private final boolean[] tipped = new boolean[MOST_TORTOISES];

        void becomes(Island other) {
            fencedCells = other.fencedCells;
            wetClocks = other.wetClocks;
            hour = other.hour;
            size = other.size;
            for (int i = 0; i < SPOTS; i++) {
                spots[i] = other.spots[i];
            }
            for (int i = 0; i < size; i++) {
                kinds[i] = other.kinds[i];
                cells[i] = other.cells[i];
                books[i] = other.books[i];
                tipped[i] = other.tipped[i];
            }
        }

        boolean has(int tortoise) {
            return isBelow(tortoise, size);
        }

        boolean isFull() {
            return size >= MOST_TORTOISES;
        }

        int comes(int kind, int cell, int subjects) {
            int number = size;
            kinds[number] = kind;
            cells[number] = cell;
            books[number] = subjects;
            tipped[number] = false;
            size++;
            return number;
        }

        boolean isFenced(int cell) {
            return (fencedCells >> cell & 1) == 1;
        }

        void fences(int cell, boolean closed) {
            if (closed) {
                fencedCells |= 1 << cell;
            } else {
                fencedCells &= ~(1 << cell);
            }
        }

        int clock() {
            return hour % CLOCKS;
        }

        boolean rainsAt(int clock) {
            return (wetClocks >> clock & 1) == 1;
        }

        int allTortoises() {
            return (1 << size) - 1;
        }

        int tortoisesIn(int cell) {
            int set = 0;
            for (int i = 0; i < size; i++) {
                if (cells[i] == cell) {
                    set |= 1 << i;
                }
            }
            return set;
        }

        int tortoisesWith(int subject) {
            int set = 0;
            for (int i = 0; i < size; i++) {
                set |= (books[i] >> subject & 1) << i;
            }
            return set;
        }

        int cellsOf(int tortoises) {
            int set = 0;
            for (int i = 0; i < size; i++) {
                if ((tortoises >> i & 1) == 1) {
                    set |= 1 << cells[i];
                }
            }
            return set;
        }

        int subjectsIn(int setOfCells) {
            int set = 0;
            for (int i = 0; i < size; i++) {
                if ((setOfCells >> cells[i] & 1) == 1) {
                    set |= books[i];
                }
            }
            return set;
        }

        int booksOfAll() {
            int sum = 0;
            for (int i = 0; i < size; i++) {
                sum += Integer.bitCount(books[i]);
            }
            return sum;
        }

        int tippedOnes() {
            int sum = 0;
            for (int i = 0; i < size; i++) {
                sum += tipped[i] ? 1 : 0;
            }
            return sum;
        }

        int aimOf(int tortoise) {
            int clock = clock();
            switch (kinds[tortoise]) {
                case LAW:
                    return aimOfLaw(clock);
                case OLD:
                    return rainsAt(clock) ? spots[SPRING] : cells[tortoise];
                case PAMPHLET:
                    return clock >= 20 ? spots[BEACH] : spots[SPRING];
                case CANON:
                    return rainsAt(clock) ? spots[BEACH] : aimOfLaw(clock);
                default:
                    return spots[SPRING];
            }
        }

        private int aimOfLaw(int clock) {
            return clock >= 10 && clock <= 15 ? spots[SHADE] : spots[SPRING];
        }

        int paceOf(int tortoise) {
            switch (kinds[tortoise]) {
                case YOUNG:
                    return 2;
                case PAMPHLET:
                    return 3;
                case OLD:
                    return clock() % 2 == 0 ? 1 : 0;
                default:
                    return 1;
            }
        }

        void goHours(int n) {
            for (int h = 0; h < n; h++) {
                goAnHour();
            }
        }

        void goAnHour() {
            for (int i = 0; i < size; i++) {
                walk(i);
            }
            meetAll();
            hour++;
        }

        /** An hour of one tortoise alone: no other one and no book has a say in its way. */
        void goAlone(int tortoise) {
            walk(tortoise);
            hour++;
        }

        private void walk(int tortoise) {
            if (tipped[tortoise]) {
                return;
            }
            // told before the first step: an old one's aim would move along with it
            int aim = aimOf(tortoise);
            int pace = paceOf(tortoise);
            for (int step = 0; step < pace; step++) {
                cells[tortoise] = stepFrom(cells[tortoise], aim);
            }
        }

        private int stepFrom(int cell, int aim) {
            int rows = aim / COLUMNS - cell / COLUMNS;
            if (rows != 0) {
                int next = rows > 0 ? cell + COLUMNS : cell - COLUMNS;
                if (!isFenced(next)) {
                    return next;
                }
            }
            int columns = aim % COLUMNS - cell % COLUMNS;
            if (columns != 0) {
                int next = columns > 0 ? cell + 1 : cell - 1;
                if (!isFenced(next)) {
                    return next;
                }
            }
            return cell;
        }

        private void meetAll() {
            for (int i = 0; i < size; i++) {
                for (int j = i + 1; j < size; j++) {
                    if (cells[i] == cells[j]) {
                        meetTwo(i, j);
                    }
                }
            }
        }

        private void meetTwo(int lesser, int other) {
            if (Integer.bitCount(books[other]) <= Integer.bitCount(books[lesser])) {
                return;
            }
            int news = books[other] & ~books[lesser];
            handsOver(other, lesser, news & -news);
        }

        void handsOver(int from, int to, int book) {
            books[from] &= ~book;
            books[to] |= book;
        }

        int hoursTill(int tortoise, int cell, int last) {
            for (int h = 0; h <= last; h++) {
                if (cells[tortoise] == cell) {
                    return h;
                }
                goAlone(tortoise);
            }
            return NEVER;
        }

        int hoursTillTogether(int tortoise, int other, int last) {
            for (int h = 0; h <= last; h++) {
                if (cells[tortoise] == cells[other]) {
                    return h;
                }
                goAnHour();
            }
            return NEVER;
        }

        boolean goesAsIn(Sheet sheet, int tortoise) {
            for (int i = 0; i < sheet.length; i++) {
                if (sheet.numbers[i] != cells[tortoise]) {
                    return false;
                }
                goAlone(tortoise);
            }
            return true;
        }
    }

    /** All the cells in which a reader may be, hour by hour, on an island of his own to look ahead. */
    private static final class Reader {
        private final Island isle = new Island();
        private int reach;
        private int readsIn;
        private boolean stays;

        void goesFrom(int cell, Island now) {
            isle.becomes(now);
            reach = 1 << cell;
            stays = false;
        }

        void staysInOneOf(int cells, Island now) {
            isle.becomes(now);
            reach = cells;
            stays = true;
        }

        /** In how many hours, up to the last one, he reads the subject, or NEVER; readsIn tells the cells. */
        int seek(int subject, int last) {
            for (int h = 0; h <= last; h++) {
                readsIn = reach & cellsWith(subject);
                if (readsIn != 0) {
                    return h;
                }
                isle.goAnHour();
                reach = onwards(reach);
            }
            return NEVER;
        }

        int seekTwo(int one, int other, int last) {
            int afterOne = 0;
            int afterOther = 0;
            for (int h = 0; h <= last; h++) {
                int ones = cellsWith(one);
                int others = cellsWith(other);
                afterOne |= reach & ones;
                afterOther |= reach & others;
                if ((afterOne & others) != 0 || (afterOther & ones) != 0) {
                    return h;
                }
                afterOne = onwards(afterOne);
                afterOther = onwards(afterOther);
                isle.goAnHour();
                reach = onwards(reach);
            }
            return NEVER;
        }

        int subjectsWithin(int last) {
            int subjects = 0;
            for (int h = 0; h <= last; h++) {
                subjects |= isle.subjectsIn(reach);
                isle.goAnHour();
                reach = onwards(reach);
            }
            return subjects;
        }

        private int cellsWith(int subject) {
            return isle.cellsOf(isle.tortoisesWith(subject));
        }

        private int onwards(int from) {
            if (stays) {
                return from;
            }
            int left = (from & ~LEFT_COLUMN) >> 1;
            int right = (from & ~RIGHT_COLUMN) << 1;
            int above = from >> COLUMNS;
            int below = from << COLUMNS & ALL_CELLS;
            return (from | left | right | above | below) & ~isle.fencedCells;
        }
    }

    /** The bytes of a text, and the telling of it to an island, token by token. */
    private static final class Tape {
        private static final int END = 0;
        private static final int WORD = 1;
        private static final int NUMBER = 2;
        private static final int SIGN = 3;
        private static final int ODD = 4;
        private static final int ABOVE_ALL_NUMBERS = 1000;

        private final int[] bytes = new int[TAPE_BYTES];
        private int length;
        private int token;
        private int tokenAt;
        private int tokenEnd;
        private int number;
        private int taken;

        void takes(int fed, int n) {
            for (int i = n - 1; i >= 0; i--) {
                bytes[length] = fed >>> 8 * i & 255;
                length++;
            }
        }

        /** How many items it told, or -1 less the place of the fault: the token that stands last. */
        int tellsTo(Island isle) {
            tokenEnd = 0;
            nextToken();
            for (int items = 1; items <= TAPE_BYTES; items++) {
                if (!tellsItem(isle)) {
                    break;
                }
                if (token == END) {
                    return items;
                }
                if (token != SIGN) {
                    break;
                }
                nextToken();
            }
            return -1 - tokenAt;
        }

        private boolean tellsItem(Island isle) {
            if (token != WORD) {
                return false;
            }
            int kind = kindTold();
            if (kind != NO_KIND) {
                return tellsTortoise(isle, kind);
            }
            if (isWord("fence")) {
                return tellsFence(isle, true);
            }
            if (isWord("free")) {
                return tellsFence(isle, false);
            }
            if (isWord("rain")) {
                return tellsRain(isle);
            }
            if (isWord("spring")) {
                return tellsSpot(isle, SPRING);
            }
            if (isWord("shade")) {
                return tellsSpot(isle, SHADE);
            }
            return isWord("beach") && tellsSpot(isle, BEACH);
        }

        private int kindTold() {
            for (int kind = 0; kind < KINDS; kind++) {
                if (isWord(nameOf(kind))) {
                    return kind;
                }
            }
            return NO_KIND;
        }

        private static String nameOf(int kind) {
            switch (kind) {
                case YOUNG:
                    return "young";
                case LAW:
                    return "law";
                case OLD:
                    return "old";
                case PAMPHLET:
                    return "pamphlet";
                case CANON:
                    return "canon";
                default:
                    return "tortoise";
            }
        }

        private boolean tellsTortoise(Island isle, int kind) {
            if (isle.isFull()) {
                return false;
            }
            nextToken();
            if (!isWord("at")) {
                return false;
            }
            nextToken();
            if (!takesNumber(0, CELLS - 1)) {
                return false;
            }
            int cell = taken;
            int books = 0;
            for (int i = 0; i < TAPE_BYTES && token == NUMBER; i++) {
                if (!takesNumber(0, SUBJECTS - 1)) {
                    return false;
                }
                books |= 1 << taken;
            }
            isle.comes(kind, cell, books);
            return true;
        }

        private boolean tellsFence(Island isle, boolean closed) {
            nextToken();
            if (!takesNumber(0, CELLS - 1)) {
                return false;
            }
            isle.fences(taken, closed);
            return true;
        }

        private boolean tellsRain(Island isle) {
            nextToken();
            if (!takesNumber(0, CLOCKS - 1)) {
                return false;
            }
            int first = taken;
            if (isWord("to")) {
                nextToken();
                if (!takesNumber(first, CLOCKS - 1)) {
                    return false;
                }
            }
            for (int clock = first; clock <= taken; clock++) {
                isle.wetClocks |= 1 << clock;
            }
            return true;
        }

        private boolean tellsSpot(Island isle, int spot) {
            nextToken();
            if (!takesNumber(0, CELLS - 1)) {
                return false;
            }
            isle.spots[spot] = taken;
            return true;
        }

        private boolean takesNumber(int lowest, int highest) {
            if (token != NUMBER || number < lowest || number > highest) {
                return false;
            }
            taken = number;
            nextToken();
            return true;
        }

        private boolean isWord(String word) {
            if (token != WORD || tokenEnd - tokenAt != word.length()) {
                return false;
            }
            for (int i = 0; i < word.length(); i++) {
                if (bytes[tokenAt + i] != word.charAt(i)) {
                    return false;
                }
            }
            return true;
        }

        private void nextToken() {
            int at = tokenEnd;
            while (at < length && bytes[at] == ' ') {
                at++;
            }
            tokenAt = at;
            if (at >= length) {
                token = END;
            } else if (isLetter(bytes[at])) {
                token = WORD;
                while (at < length && isLetter(bytes[at])) {
                    at++;
                }
            } else if (isDigit(bytes[at])) {
                token = NUMBER;
                number = 0;
                while (at < length && isDigit(bytes[at])) {
                    // held at a bound, lest a long row of digits wrap around to a number that may be
                    number = Math.min(number * 10 + bytes[at] - '0', ABOVE_ALL_NUMBERS);
                    at++;
                }
            } else {
                token = bytes[at] == ';' ? SIGN : ODD;
                at++;
            }
            tokenEnd = at;
        }

        private static boolean isLetter(int b) {
            return b >= 'a' && b <= 'z';
        }

        private static boolean isDigit(int b) {
            return b >= '0' && b <= '9';
        }
    }

    /** A row of numbers; each is held as the signed number of its bits. */
    private static final class Sheet {
        private final long[] numbers = new long[SHEET_NUMBERS];
        private int bits;
        private int length;

        boolean isMissing() {
            return bits == 0;
        }

        void becomesBlank(int newBits, int newLength) {
            bits = newBits;
            length = newLength;
            for (int i = 0; i < SHEET_NUMBERS; i++) {
                numbers[i] = 0;
            }
        }

        long lowestBits(long v) {
            if (bits == 8) {
                return (byte) v;
            }
            return bits == 16 ? (short) v : v;
        }

        /** Whether it has n numbers from one on; told so that no sum can wrap around. */
        boolean hasFrom(int from, int n) {
            return from >= 0 && n >= 0 && n <= length && from <= length - n;
        }
    }
}
