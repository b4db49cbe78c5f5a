import java.util.ArrayList;
import java.util.HashSet;
import java.util.List;
import java.util.Set;
import java.util.TreeSet;
import java.util.function.Consumer;
import java.util.regex.Matcher;
import java.util.regex.Pattern;

/**
 * The document once more, in another manner: kinds as classes, sets as sets, every look ahead from
 * the start. It is slow and plain, and shares no line with the program.
 */
final class Model {
    static final class Found extends RuntimeException {
        private static final long serialVersionUID = 1L;
        final int which;

        Found(int which) {
            super(null, null, false, false);
            this.which = which;
        }
    }

    private static class Plain {
        int aim(World w, One one) {
            return w.spot[0];
        }

        int pace(World w) {
            return 1;
        }
    }

    private static class Young extends Plain {
        @Override
        int pace(World w) {
            return 2 * super.pace(w);
        }
    }

    private static class Law extends Plain {
        @Override
        int aim(World w, One one) {
            return w.clock() >= 10 && w.clock() <= 15 ? w.spot[1] : super.aim(w, one);
        }
    }

    private static class Old extends Plain {
        @Override
        int aim(World w, One one) {
            return w.wet() ? super.aim(w, one) : one.cell;
        }

        @Override
        int pace(World w) {
            return 1 - w.clock() % 2;
        }
    }

    private static final class Pamphlet extends Young {
        @Override
        int aim(World w, One one) {
            return w.clock() >= 20 ? w.spot[2] : super.aim(w, one);
        }

        @Override
        int pace(World w) {
            return super.pace(w) + 1;
        }
    }

    private static final class Canon extends Law {
        @Override
        int aim(World w, One one) {
            return w.wet() ? w.spot[2] : super.aim(w, one);
        }
    }

    private static final Plain[] KINDS = {new Plain(), new Young(), new Law(), new Old(), new Pamphlet(), new Canon()};
    private static final List<String> NAMES = List.of("tortoise", "young", "law", "old", "pamphlet", "canon");
    private static final List<String> SPOTS = List.of("spring", "shade", "beach");

    private static final class One {
        int kind;
        int cell;
        TreeSet<Integer> books = new TreeSet<>();
        boolean tipped;
    }

    private static final class World {
        final TreeSet<Integer> fenced = new TreeSet<>();
        final TreeSet<Integer> rain = new TreeSet<>();
        final int[] spot = {14, 3, 24};
        int hour;
        final List<One> ones = new ArrayList<>();

        World twin() {
            World w = new World();
            w.fenced.addAll(fenced);
            w.rain.addAll(rain);
            System.arraycopy(spot, 0, w.spot, 0, 3);
            w.hour = hour;
            for (One one : ones) {
                One o = new One();
                o.kind = one.kind;
                o.cell = one.cell;
                o.books.addAll(one.books);
                o.tipped = one.tipped;
                w.ones.add(o);
            }
            return w;
        }

        int clock() {
            return hour % 24;
        }

        boolean wet() {
            return rain.contains(clock());
        }

        void hourGoes() {
            for (One one : ones) {
                if (!one.tipped) {
                    int aim = KINDS[one.kind].aim(this, one);
                    int pace = KINDS[one.kind].pace(this);
                    for (int i = 0; i < pace; i++) {
                        step(one, aim);
                    }
                }
            }
            for (One lesser : ones) {
                for (One other : ones.subList(ones.indexOf(lesser) + 1, ones.size())) {
                    if (lesser.cell == other.cell && other.books.size() > lesser.books.size()) {
                        TreeSet<Integer> news = new TreeSet<>(other.books);
                        news.removeAll(lesser.books);
                        if (!news.isEmpty()) {
                            other.books.remove(news.first());
                            lesser.books.add(news.first());
                        }
                    }
                }
            }
            hour++;
        }

        private void step(One one, int aim) {
            int row = one.cell / 6;
            int column = one.cell % 6;
            int nearerRow = row + Integer.signum(aim / 6 - row);
            int nearerColumn = column + Integer.signum(aim % 6 - column);
            if (nearerRow != row && !fenced.contains(nearerRow * 6 + column)) {
                one.cell = nearerRow * 6 + column;
            } else if (nearerColumn != column && !fenced.contains(row * 6 + nearerColumn)) {
                one.cell = row * 6 + nearerColumn;
            }
        }

        World ahead(int n) {
            World w = twin();
            for (int i = 0; i < n; i++) {
                w.hourGoes();
            }
            return w;
        }

        boolean reads(int cell, int subject) {
            return ones.stream().anyMatch(o -> o.cell == cell && o.books.contains(subject));
        }

        Set<Integer> next(int cell) {
            Set<Integer> to = new TreeSet<>();
            for (int c = 0; c < 30; c++) {
                int far = Math.abs(c / 6 - cell / 6) + Math.abs(c % 6 - cell % 6);
                if (far <= 1 && !fenced.contains(c)) {
                    to.add(c);
                }
            }
            return to;
        }

        /** {hours, least cell}, or null. */
        int[] soonest(int cell, int subject, int last) {
            World w = twin();
            TreeSet<Integer> at = new TreeSet<>(Set.of(cell));
            for (int h = 0; h <= last; h++) {
                for (int c : at) {
                    if (w.reads(c, subject)) {
                        return new int[] {h, c};
                    }
                }
                w.hourGoes();
                TreeSet<Integer> then = new TreeSet<>();
                for (int c : at) {
                    then.addAll(w.next(c));
                }
                at = then;
            }
            return null;
        }

        int both(int cell, int one, int other) {
            World w = twin();
            Set<Integer> at = new HashSet<>(Set.of(cell * 4));
            for (int h = 0; h <= 48; h++) {
                Set<Integer> having = new HashSet<>();
                for (int state : at) {
                    int c = state / 4;
                    having.add(c * 4 + (state % 4 | (w.reads(c, one) ? 1 : 0) | (w.reads(c, other) ? 2 : 0)));
                }
                if (having.stream().anyMatch(state -> state % 4 == 3)) {
                    return h;
                }
                w.hourGoes();
                at = new HashSet<>();
                for (int state : having) {
                    for (int c : w.next(state / 4)) {
                        at.add(c * 4 + state % 4);
                    }
                }
            }
            throw new Found(3);
        }

        int waits(int cell, int subject) {
            World w = twin();
            for (int h = 0; h <= 48; h++) {
                if (w.reads(cell, subject)) {
                    return h;
                }
                w.hourGoes();
            }
            return -1;
        }

        int when(int tortoise, int cell) {
            World w = twin();
            for (int h = 0; h <= 72; h++) {
                if (w.ones.get(tortoise).cell == cell) {
                    return h;
                }
                w.hourGoes();
            }
            return -1;
        }
    }

    private World w = new World();
    private World image;
    private final int[] found = new int[7];
    private final StringBuilder tape = new StringBuilder();
    private final Number[][] sheets = new Number[4][];
    private final int[] sheetBits = new int[4];

    /** The answer of a call by its name; arguments are longs. */
    long call(String name, long[] a) {
        int[] i = new int[a.length];
        for (int k = 0; k < a.length; k++) {
            i[k] = (int) a[k];
        }
        try {
            switch (name) {
                case "fence": case "spot": case "rain": case "cell":
                    return island(name, i);
                case "tortoise": case "of": case "set": case "turn": case "as": case "lend":
                    return tortoises(name, i);
                case "hours": case "now": case "on": case "when": case "meet": case "carries":
                    return hours(name, i);
                case "soonest": case "where": case "waits": case "waterhole": case "many": case "both": case "censors":
                    return readers(name, i);
                case "tips": case "spring": case "kind":
                    return helps(name, i);
                case "feed": case "wipe": case "island":
                    return text(name, i);
                case "sheet": case "write": case "copy": case "lays": case "book": case "read":
                    return sheets(name, i, a);
                default:
                    return images(name, i);
            }
        } catch (Found f) {
            found[f.which]++;
            return -1000000001 - f.which;
        }
    }

    private static void check(boolean right, int which) {
        if (!right) {
            throw new Found(which);
        }
    }

    private static void range(long v, long least, long most) {
        check(v >= least && v <= most, 0);
    }

    private void isOne(int v) {
        range(v, 0, w.ones.size() - 1);
    }

    private static int bits(Iterable<Integer> set) {
        int bits = 0;
        for (int v : set) {
            bits |= 1 << v;
        }
        return bits;
    }

    private static TreeSet<Integer> members(int bits) {
        TreeSet<Integer> set = new TreeSet<>();
        for (int v = 0; v < 31; v++) {
            if ((bits & 1 << v) != 0) {
                set.add(v);
            }
        }
        return set;
    }

    private int island(String name, int[] a) {
        int was;
        switch (name) {
            case "fence":
                range(a[0], 0, 29);
                range(a[1], 0, 1);
                was = w.fenced.contains(a[0]) ? 1 : 0;
                w.fenced.remove(a[0]);
                if (a[1] == 1) {
                    w.fenced.add(a[0]);
                }
                return was;
            case "spot":
                range(a[0], 0, 2);
                range(a[1], 0, 29);
                was = w.spot[a[0]];
                w.spot[a[0]] = a[1];
                return was;
            case "rain":
                range(a[0], 0, 0xffffff);
                was = bits(w.rain);
                w.rain.clear();
                w.rain.addAll(members(a[0]));
                return was;
            default:
                range(a[0], 0, 29);
                range(a[1], 0, 2);
                if (a[1] == 0) {
                    return w.fenced.contains(a[0]) ? 1 : 0;
                }
                TreeSet<Integer> set = new TreeSet<>();
                for (One one : w.ones) {
                    if (one.cell == a[0]) {
                        set.addAll(a[1] == 1 ? Set.of(w.ones.indexOf(one)) : one.books);
                    }
                }
                return bits(set);
        }
    }

    private int tortoises(String name, int[] a) {
        if (name.equals("tortoise")) {
            range(a[0], 0, 5);
            range(a[1], 0, 29);
            range(a[2], 0, 4095);
            check(w.ones.size() < 8, 1);
            One one = new One();
            one.kind = a[0];
            one.cell = a[1];
            one.books = members(a[2]);
            w.ones.add(one);
            return w.ones.size() - 1;
        }
        isOne(a[0]);
        One one = w.ones.get(a[0]);
        int was;
        switch (name) {
            case "of":
                range(a[1], 0, 5);
                return new int[] {one.kind, one.cell, bits(one.books), one.tipped ? 1 : 0,
                    KINDS[one.kind].aim(w, one), KINDS[one.kind].pace(w)}[a[1]];
            case "set":
                range(a[1], 1, 3);
                range(a[2], 0, a[1] == 1 ? 29 : a[1] == 2 ? 4095 : 1);
                was = a[1] == 1 ? one.cell : a[1] == 2 ? bits(one.books) : one.tipped ? 1 : 0;
                one.cell = a[1] == 1 ? a[2] : one.cell;
                one.books = a[1] == 2 ? members(a[2]) : one.books;
                one.tipped = a[1] == 3 ? a[2] == 1 : one.tipped;
                return was;
            case "turn":
                range(a[1], 0, 5);
                was = one.kind;
                one.kind = a[1];
                return was;
            case "as":
                range(a[1], 0, 5);
                check(KINDS[a[1]].getClass().isInstance(KINDS[one.kind]), 2);
                return bits(one.books);
            default:
                isOne(a[1]);
                range(a[2], 0, 11);
                check(a[0] != a[1], 0);
                One other = w.ones.get(a[1]);
                check(one.cell == other.cell, 4);
                check(one.books.contains(a[2]) && !other.books.contains(a[2]), 3);
                one.books.remove(a[2]);
                other.books.add(a[2]);
                return 1;
        }
    }

    private static int booksOf(World w) {
        return w.ones.stream().mapToInt(o -> o.books.size()).sum();
    }

    private int hours(String name, int[] a) {
        TreeSet<Integer> set = new TreeSet<>();
        switch (name) {
            case "hours":
                range(a[0], 1, 72);
                check(w.hour + a[0] <= 9999, 4);
                w = w.ahead(a[0]);
                return booksOf(w);
            case "now":
                range(a[0], 0, 5);
                for (One one : w.ones) {
                    set.addAll(a[0] == 4 ? one.books : Set.of(one.cell));
                }
                return new int[] {w.hour, w.clock(), w.wet() ? 1 : 0, booksOf(w), bits(set), bits(set)}[a[0]];
            case "on":
                isOne(a[0]);
                range(a[1], 0, 72);
                range(a[2], 0, 1);
                One then = w.ahead(a[1]).ones.get(a[0]);
                return a[2] == 0 ? then.cell : bits(then.books);
            case "when":
                isOne(a[0]);
                range(a[1], 0, 29);
                check(w.when(a[0], a[1]) >= 0, 3);
                return w.when(a[0], a[1]);
            case "meet":
                isOne(a[0]);
                isOne(a[1]);
                check(a[0] != a[1], 0);
                World on = w.twin();
                for (int h = 0; h <= 72; h++) {
                    if (on.ones.get(a[0]).cell == on.ones.get(a[1]).cell) {
                        return h;
                    }
                    on.hourGoes();
                }
                throw new Found(3);
            default:
                range(a[0], 0, 11);
                range(a[1], 0, 72);
                World later = w.ahead(a[1]);
                for (One one : later.ones) {
                    if (one.books.contains(a[0])) {
                        set.add(later.ones.indexOf(one));
                    }
                }
                return bits(set);
        }
    }

    private int readers(String name, int[] a) {
        range(a[0], 0, name.equals("waterhole") ? 11 : 29);
        if (name.equals("waterhole")) {
            int best = -1;
            for (int c = 29; c >= 0; c--) {
                int hours = w.fenced.contains(c) ? -1 : w.waits(c, a[0]);
                if (hours >= 0 && (best < 0 || hours <= w.waits(best, a[0]))) {
                    best = c;
                }
            }
            check(best >= 0, 3);
            return best;
        }
        range(a[1], 0, name.equals("many") ? 48 : 11);
        if (name.equals("both")) {
            range(a[2], 0, 11);
            check(a[1] != a[2], 0);
        }
        if (name.equals("censors")) {
            range(a[2], 0, 29);
            check(a[0] != a[2], 0);
        }
        check(!w.fenced.contains(a[0]), 4);
        switch (name) {
            case "waits":
                check(w.waits(a[0], a[1]) >= 0, 3);
                return w.waits(a[0], a[1]);
            case "many":
                int many = 0;
                for (int subject = 0; subject < 12; subject++) {
                    many += w.soonest(a[0], subject, a[1]) == null ? 0 : 1;
                }
                return many;
            case "both":
                return w.both(a[0], a[1], a[2]);
            default:
                int[] now = w.soonest(a[0], a[1], 48);
                check(now != null, 3);
                if (!name.equals("censors")) {
                    return now[name.equals("soonest") ? 0 : 1];
                }
                World then = w.twin();
                then.fenced.add(a[2]);
                int[] fenced = then.soonest(a[0], a[1], 48);
                return fenced == null ? 99 : fenced[0] - now[0];
        }
    }

    private int soonestIf(int cell, int subject, Consumer<World> change) {
        World then = w.twin();
        change.accept(then);
        int[] hours = then.soonest(cell, subject, 48);
        return hours == null ? 1000 : hours[0];
    }

    private int helps(String name, int[] a) {
        int[] hours;
        int limit = 1000;
        if (name.equals("kind")) {
            isOne(a[0]);
            range(a[1], 0, 29);
            hours = new int[6];
            int kind = w.ones.get(a[0]).kind;
            for (int k = 0; k < 6; k++) {
                w.ones.get(a[0]).kind = k;
                hours[k] = w.when(a[0], a[1]) < 0 ? 1000 : w.when(a[0], a[1]);
            }
            w.ones.get(a[0]).kind = kind;
        } else {
            range(a[0], 0, 29);
            range(a[1], 0, 11);
            check(!w.fenced.contains(a[0]), 4);
            if (name.equals("tips")) {
                limit = soonestIf(a[0], a[1], x -> { });
                hours = new int[w.ones.size()];
                for (int k = 0; k < hours.length; k++) {
                    int it = k;
                    hours[k] = w.ones.get(k).tipped ? 1000 : soonestIf(a[0], a[1], x -> x.ones.get(it).tipped = true);
                }
            } else {
                hours = new int[30];
                for (int k = 0; k < 30; k++) {
                    int it = k;
                    hours[k] = w.fenced.contains(k) ? 1000 : soonestIf(a[0], a[1], x -> x.spot[0] = it);
                }
            }
        }
        int best = -1;
        for (int k = hours.length - 1; k >= 0; k--) {
            if (hours[k] < limit && (best < 0 || hours[k] <= hours[best])) {
                best = k;
            }
        }
        check(best >= 0, 3);
        return best;
    }

    private int text(String name, int[] a) {
        int had = tape.length();
        switch (name) {
            case "feed":
                range(a[1], 1, 4);
                check(had + a[1] <= 120, 1);
                for (int i = a[1] - 1; i >= 0; i--) {
                    tape.append((char) (a[0] >> 8 * i & 255));
                }
                return tape.length();
            case "wipe":
                tape.setLength(0);
                return had;
            default:
                int items = told(tape.toString());
                tape.setLength(0);
                return items;
        }
    }

    private List<String> tokens;
    private List<Integer> places;
    private int next;

    private int told(String text) {
        tokens = new ArrayList<>();
        places = new ArrayList<>();
        Matcher m = Pattern.compile("[a-z]+|[0-9]+|[^ ]", Pattern.DOTALL).matcher(text);
        while (m.find()) {
            tokens.add(m.group());
            places.add(m.start());
        }
        places.add(text.length());
        next = 0;
        World then = w.twin();
        int items = 0;
        boolean right;
        do {
            right = item(then);
            items++;
        } while (right && next < tokens.size() && accepts(";"));
        if (!right || next < tokens.size()) {
            return -1 - places.get(next);
        }
        w = then;
        return items;
    }

    private boolean accepts(String token) {
        boolean same = next < tokens.size() && tokens.get(next).equals(token);
        next += same ? 1 : 0;
        return same;
    }

    private boolean isNumber() {
        return next < tokens.size() && tokens.get(next).matches("[0-9]+");
    }

    private int number(int least, int most) {
        if (!isNumber()) {
            return -1;
        }
        java.math.BigInteger v = new java.math.BigInteger(tokens.get(next));
        if (v.bitLength() > 20 || v.intValue() < least || v.intValue() > most) {
            return -1;
        }
        next++;
        return v.intValue();
    }

    private boolean item(World then) {
        String word = next < tokens.size() ? tokens.get(next) : "";
        int v;
        if (NAMES.contains(word)) {
            if (then.ones.size() == 8) {
                return false;
            }
            next++;
            if (!accepts("at")) {
                return false;
            }
            One one = new One();
            one.kind = NAMES.indexOf(word);
            one.cell = number(0, 29);
            if (one.cell < 0) {
                return false;
            }
            while (isNumber()) {
                v = number(0, 11);
                if (v < 0) {
                    return false;
                }
                one.books.add(v);
            }
            return then.ones.add(one);
        }
        if (accepts("rain")) {
            int from = number(0, 23);
            if (from < 0) {
                return false;
            }
            int to = accepts("to") ? number(from, 23) : from;
            for (int c = from; c <= to; c++) {
                then.rain.add(c);
            }
            return to >= 0;
        }
        boolean known = SPOTS.contains(word) || word.equals("fence") || word.equals("free");
        next += known ? 1 : 0;
        v = known ? number(0, 29) : -1;
        if (v < 0) {
            return false;
        }
        if (SPOTS.contains(word)) {
            then.spot[SPOTS.indexOf(word)] = v;
        } else if (word.equals("fence")) {
            then.fenced.add(v);
        } else {
            then.fenced.remove(v);
        }
        return true;
    }

    private static Number cut(int bits, long v) {
        return bits == 8 ? (Number) (byte) v : bits == 16 ? (Number) (short) v : (Number) v;
    }

    private long sheets(String name, int[] a, long[] wide) {
        range(a[0], 0, 3);
        int s = a[0];
        if (name.equals("sheet")) {
            check(List.of(0, 8, 16, 64).contains(a[1]), 0);
            check(a[2] >= 0, 6);
            check(a[2] <= 40, 0);
            sheetBits[s] = a[1];
            sheets[s] = a[1] == 0 ? null : new Number[a[2]];
            for (int i = 0; sheets[s] != null && i < a[2]; i++) {
                sheets[s][i] = cut(a[1], 0);
            }
            return a[1] == 0 ? 0 : a[2];
        }
        if (name.equals("copy")) {
            range(a[2], 0, 3);
            check(sheets[s] != null && sheets[a[2]] != null, 5);
            check(sheetBits[s] == sheetBits[a[2]], 2);
            check(a[1] >= 0 && a[3] >= 0 && a[4] >= 0, 0);
            check((long) a[1] + a[4] <= sheets[s].length && (long) a[3] + a[4] <= sheets[a[2]].length, 0);
            Number[] were = sheets[s].clone();
            for (int i = 0; i < a[4]; i++) {
                sheets[a[2]][a[3] + i] = were[a[1] + i];
            }
            return a[4];
        }
        check(sheets[s] != null, 5);
        Number[] row = sheets[s];
        switch (name) {
            case "write":
                range(a[1], 0, row.length - 1);
                long was = row[a[1]].longValue();
                row[a[1]] = cut(sheetBits[s], wide[2]);
                return was;
            case "lays":
                int came = 0;
                for (int i = 0; i < row.length; i++) {
                    long v = row[i].longValue();
                    if (i < w.ones.size() && v >= 0 && v < 4096) {
                        w.ones.get(i).books = members((int) v);
                        came++;
                    }
                }
                return came;
            case "book":
                isOne(a[1]);
                for (int i = 0; i < row.length; i++) {
                    row[i] = cut(sheetBits[s], w.ahead(i).ones.get(a[1]).cell);
                }
                return row.length;
            default:
                isOne(a[1]);
                return pairs(row, a[1]);
        }
    }

    private int pairs(Number[] row, int tortoise) {
        int pairs = 0;
        for (int kind = 0; kind < 6; kind++) {
            for (int c = 0; c < 30; c++) {
                World then = w.twin();
                then.ones.get(tortoise).kind = kind;
                then.spot[0] = c;
                boolean so = true;
                for (int i = 0; i < row.length && so; i++) {
                    so = row[i].longValue() == then.ones.get(tortoise).cell;
                    then.hourGoes();
                }
                pairs += so ? 1 : 0;
            }
        }
        return pairs;
    }

    private int images(String name, int[] a) {
        switch (name) {
            case "image":
                image = w.twin();
                return 1;
            case "undo":
                check(image != null, 3);
                w = image.twin();
                return w.ones.size();
            case "tear":
                int was = image == null ? 0 : 1;
                image = null;
                return was;
            case "count":
                range(a[0], 0, 3);
                return new int[] {w.ones.size(), tape.length(), w.fenced.size(),
                    (int) w.ones.stream().filter(o -> o.tipped).count()}[a[0]];
            default:
                range(a[0], -1, 6);
                int all = 0;
                for (int f : found) {
                    all += f;
                }
                return a[0] == -1 ? all : found[a[0]];
        }
    }
}
