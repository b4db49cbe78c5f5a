import java.lang.reflect.InvocationTargetException;
import java.lang.reflect.Method;
import java.lang.reflect.Modifier;
import java.nio.charset.StandardCharsets;
import java.util.ArrayList;
import java.util.Arrays;
import java.util.Comparator;
import java.util.List;
import java.util.Random;

/** Long runs of calls by a fixed seed, each answered by the program and by the model alike. */
public final class ModelTest {
    private static final int CALLS = 512;
    private static final String[] WORDS = {"tortoise", "young", "law", "old", "pamphlet", "canon", "at", "fence", "free",
        "rain", "to", "spring", "shade", "beach", ";", "x", "A", "3,", "", "29", "30", "0", "11", "12", "23", "24"};

    private final Due d = new Due();
    private final List<Method> face = new ArrayList<>();
    private final Random random;
    private TortoiseShelves program;
    private Model model;
    private final List<String> told = new ArrayList<>();

    private ModelTest(long seed) {
        random = new Random(seed);
        for (Method m : TortoiseShelves.class.getDeclaredMethods()) {
            if (Modifier.isPublic(m.getModifiers())) {
                face.add(m);
            }
        }
        face.sort(Comparator.comparing(Method::getName));
    }

    public static void main(String[] args) throws ReflectiveOperationException {
        int runs = args.length > 0 ? Integer.parseInt(args[0]) : 60;
        long seed = args.length > 1 ? Long.parseLong(args[1]) : 7;
        ModelTest test = new ModelTest(seed);
        boolean same = true;
        for (int run = 0; run < runs && same; run++) {
            same = test.run(run);
        }
        test.d.end();
    }

    private boolean run(int run) throws ReflectiveOperationException {
        program = new TortoiseShelves();
        model = new Model();
        told.clear();
        boolean wild = run % 5 == 4;
        for (int i = 0; i < CALLS;) {
            if (random.nextInt(12) == 0) {
                byte[] text = text().getBytes(StandardCharsets.ISO_8859_1);
                for (int at = 0; at < text.length && i < CALLS; at++, i++) {
                    if (!same("feed", text[at], 1)) {
                        return false;
                    }
                }
                i++;
                if (!same("island")) {
                    return false;
                }
                continue;
            }
            i++;
            Method m = face.get(random.nextInt(face.size()));
            if (!same(m.getName(), arguments(m, wild))) {
                return false;
            }
        }
        return true;
    }

    private boolean same(String name, long... a) throws ReflectiveOperationException {
        Method m = face.stream().filter(f -> f.getName().equals(name)).findFirst().orElseThrow();
        Object[] boxed = new Object[a.length];
        for (int i = 0; i < a.length; i++) {
            boxed[i] = m.getParameterTypes()[i] == long.class ? (Object) a[i] : (Object) (int) a[i];
        }
        String call = name + Arrays.toString(a);
        long want = model.call(name, a);
        long got;
        try {
            got = ((Number) m.invoke(program, boxed)).longValue();
        } catch (InvocationTargetException e) {
            told.add(call + " threw " + e.getCause());
            got = Long.MIN_VALUE + 77;
        }
        d.due(call, got, want);
        told.add(call + " = " + want);
        if (got != want) {
            System.out.println("the run: " + told);
        }
        return got == want;
    }

    private long[] arguments(Method m, boolean wild) {
        long[] a = new long[m.getParameterCount()];
        for (int i = 0; i < a.length; i++) {
            a[i] = wild && random.nextInt(4) == 0 ? wildValue() : value(m.getName(), i);
        }
        return a;
    }

    private long wildValue() {
        long[] values = {-1, -2, 8, 12, 30, 31, 32, 40, 41, 48, 49, 72, 73, 4096, 1 << 24, Integer.MAX_VALUE,
            Integer.MIN_VALUE, random.nextInt(), Long.MAX_VALUE, Long.MIN_VALUE};
        return values[random.nextInt(values.length)];
    }

    /** Mostly a value that may be, so that the run comes to something. */
    private long value(String name, int i) {
        switch (name + i) {
            case "fence0": case "spot1": case "cell0": case "tortoise1": case "when1": case "soonest0": case "where0":
            case "waits0": case "many0": case "both0": case "censors0": case "censors2": case "tips0": case "spring0":
            case "kind1":
                return random.nextInt(30);
            case "fence1":
                return random.nextInt(3) == 0 ? 1 : 0;
            case "spot0":
                return random.nextInt(3);
            case "rain0":
                return random.nextInt(1 << 24) & random.nextInt(1 << 24);
            case "cell1":
                return random.nextInt(3);
            case "tortoise0": case "turn1": case "as1":
                return random.nextInt(6);
            case "tortoise2":
                return random.nextInt(4096) & random.nextInt(4096) & random.nextInt(4096);
            case "of1": case "now0":
                return random.nextInt(6);
            case "set1":
                return 1 + random.nextInt(3);
            case "set2":
                return random.nextInt(3) == 0 ? random.nextInt(2) : random.nextInt(30);
            case "hours0":
                return 1 + random.nextInt(random.nextInt(4) == 0 ? 72 : 5);
            case "on1": case "carries1":
                return random.nextInt(73);
            case "on2":
                return random.nextInt(2);
            case "many1":
                return random.nextInt(49);
            case "feed0":
                return random.nextInt();
            case "feed1":
                return 1 + random.nextInt(4);
            case "sheet0": case "write0": case "copy0": case "copy2": case "lays0": case "book0": case "read0":
                return random.nextInt(4);
            case "sheet1":
                return new int[] {0, 8, 16, 16, 64, 8}[random.nextInt(6)];
            case "sheet2":
                return random.nextInt(41);
            case "write1": case "copy1": case "copy3": case "copy4":
                return random.nextInt(12);
            case "write2":
                return random.nextBoolean() ? random.nextInt(4096) : random.nextLong();
            case "count0":
                return random.nextInt(4);
            case "status0":
                return random.nextInt(8) - 1;
            default:
                return name.matches("of|set|turn|as|on|when|kind|book|read|lend|meet") && i < 2 ? random.nextInt(8)
                    : random.nextInt(12);
        }
    }

    private String text() {
        StringBuilder text = new StringBuilder();
        int items = 1 + random.nextInt(4);
        for (int i = 0; i < items; i++) {
            text.append(i == 0 ? "" : " ;").append(item());
        }
        if (random.nextInt(3) == 0) {
            text.insert(random.nextInt(text.length() + 1), WORDS[random.nextInt(WORDS.length)]);
        }
        if (random.nextInt(8) == 0) {
            text.setLength(random.nextInt(text.length() + 1));
        }
        return text.toString();
    }

    private String item() {
        int word = random.nextInt(14);
        String cell = " " + random.nextInt(random.nextInt(9) == 0 ? 33 : 30);
        if (word < 6) {
            StringBuilder books = new StringBuilder();
            for (int n = random.nextInt(4); n > 0; n--) {
                books.append(' ').append(random.nextInt(random.nextInt(9) == 0 ? 14 : 12));
            }
            return WORDS[word] + " at" + cell + books;
        }
        if (word == 9) {
            int from = random.nextInt(24);
            return "rain " + from + (random.nextBoolean() ? "" : " to " + (from + random.nextInt(5) - 1));
        }
        return new String[] {"fence", "free", "spring", "shade", "beach"}[random.nextInt(5)] + cell;
    }
}
