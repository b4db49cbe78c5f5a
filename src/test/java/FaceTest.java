import java.io.IOException;
import java.lang.reflect.Field;
import java.lang.reflect.Method;
import java.lang.reflect.Modifier;
import java.nio.file.Files;
import java.nio.file.Path;
import java.util.ArrayList;
import java.util.Arrays;
import java.util.List;
import java.util.Set;
import java.util.TreeSet;
import java.util.regex.Matcher;
import java.util.regex.Pattern;

/** The public face of the class, and those rules of LANGUAGE.md that can be seen from outside. */
public final class FaceTest {
    private static final Path SOURCE = Path.of("src/main/java/TortoiseShelves.java");
    private static final String[] FACE = {
        "int fence(int,int)", "int spot(int,int)", "int rain(int)", "int cell(int,int)",
        "int tortoise(int,int,int)", "int of(int,int)", "int set(int,int,int)", "int turn(int,int)",
        "int as(int,int)", "int lend(int,int,int)",
        "int hours(int)", "int now(int)", "int on(int,int,int)", "int when(int,int)", "int meet(int,int)",
        "int carries(int,int)",
        "int soonest(int,int)", "int where(int,int)", "int waits(int,int)", "int waterhole(int)", "int many(int,int)",
        "int both(int,int,int)", "int censors(int,int,int)",
        "int tips(int,int)", "int spring(int,int)", "int kind(int,int)",
        "int feed(int,int)", "int wipe()", "int island()",
        "int sheet(int,int,int)", "long write(int,int,long)", "int copy(int,int,int,int,int)", "int lays(int)",
        "int book(int,int)", "int read(int,int)",
        "int image()", "int undo()", "int tear()", "int count(int)", "int status(int)",
    };

    private static final Due d = new Due();

    public static void main(String[] args) throws IOException {
        face();
        nested();
        source();
        fieldsAndParameters();
        library();
        methodLengths();
        d.end();
    }

    private static String told(Method m) {
        StringBuilder text = new StringBuilder(m.getReturnType().getName()).append(' ').append(m.getName()).append('(');
        for (Class<?> type : m.getParameterTypes()) {
            text.append(text.charAt(text.length() - 1) == '(' ? "" : ",").append(type.getName());
        }
        return text.append(')').toString();
    }

    private static void face() {
        Class<?> c = TortoiseShelves.class;
        Set<String> open = new TreeSet<>();
        Set<String> names = new TreeSet<>();
        for (Method m : c.getDeclaredMethods()) {
            if (!Modifier.isPrivate(m.getModifiers())) {
                open.add(told(m));
                names.add(m.getName());
                d.due(m.getName() + " is public", Modifier.isPublic(m.getModifiers()) ? 1 : 0, 1);
            }
        }
        Set<String> due = new TreeSet<>(Arrays.asList(FACE));
        d.due("the face is " + open, open.equals(due) ? 1 : 0, 1);
        for (Method m : c.getDeclaredMethods()) {
            if (Modifier.isPrivate(m.getModifiers())) {
                d.due("private " + m.getName() + " bears a public name", names.contains(m.getName()) ? 1 : 0, 0);
            }
        }
        for (Field f : c.getDeclaredFields()) {
            d.due("field " + f.getName() + " is private", Modifier.isPrivate(f.getModifiers()) ? 1 : 0, 1);
        }
        d.due("final", Modifier.isFinal(c.getModifiers()) ? 1 : 0, 1);
        d.due("constructors", c.getDeclaredConstructors().length, 1);
        d.due("the constructor is public", Modifier.isPublic(c.getDeclaredConstructors()[0].getModifiers()) ? 1 : 0, 1);
    }

    private static void nested() {
        Class<?>[] inside = TortoiseShelves.class.getDeclaredClasses();
        d.due("some twelve classes at most", inside.length <= 11 ? 1 : 0, 1);
        for (Class<?> c : inside) {
            d.due(c + " is static", Modifier.isStatic(c.getModifiers()) ? 1 : 0, 1);
            for (Field f : c.getDeclaredFields()) {
                boolean constant = !Modifier.isStatic(f.getModifiers()) || Modifier.isFinal(f.getModifiers());
                d.due(c + ": " + f.getName() + " is no static state", constant ? 1 : 0, 1);
            }
        }
    }

    private static void source() throws IOException {
        String text = Files.readString(SOURCE);
        for (int i = 0; i < text.length(); i++) {
            if (text.charAt(i) > 126) {
                d.due("a sign of the source at " + i, text.charAt(i), 126);
            }
        }
        Matcher m = Pattern.compile("\\b(throw|throws|try|catch|synchronized|assert|import|package|Exact|Object|System\\.(?!arraycopy)\\w+)\\b|->|::")
            .matcher(code());
        while (m.find()) {
            d.due("the source has " + m.group(), 1, 0);
        }
    }

    /** The source without comments and texts, line by line as it was. */
    private static String code() throws IOException {
        String text = Files.readString(SOURCE);
        Matcher comments = Pattern.compile("(?s)/\\*.*?\\*/").matcher(text);
        return comments.replaceAll(m -> m.group().replaceAll("[^\n]", "")).replaceAll("//[^\n]*", "")
            .replaceAll("\"[^\"\n]*\"", "\"\"");
    }

    /** Rules 3, 5 and 11: types of fields, no static state, some twenty fields, seven parameters. */
    private static void fieldsAndParameters() {
        List<Class<?>> all = new ArrayList<>(Arrays.asList(TortoiseShelves.class.getDeclaredClasses()));
        all.add(TortoiseShelves.class);
        for (Class<?> c : all) {
            int own = 0;
            for (Field f : c.getDeclaredFields()) {
                boolean isStatic = Modifier.isStatic(f.getModifiers());
                own += isStatic ? 0 : 1;
                Class<?> type = f.getType().isArray() ? f.getType().getComponentType() : f.getType();
                boolean plain = type.isPrimitive() || type == String.class;
                d.due(f + " is of a type that may be", plain || !isStatic && all.contains(type) ? 1 : 0, 1);
                d.due(f + " is no static state", !isStatic || Modifier.isFinal(f.getModifiers()) ? 1 : 0, 1);
            }
            d.due(c + " has some twenty fields at most", own <= 20 ? 1 : 0, 1);
            for (Method m : c.getDeclaredMethods()) {
                d.due(m + " has seven parameters at most", m.getParameterCount() <= 7 ? 1 : 0, 1);
            }
        }
    }

    /** Rule 4: nothing of the library but what it lists. */
    private static void library() throws IOException {
        Set<String> may = Set.of("Integer.bitCount", "Math.min", "Math.max", "System.arraycopy");
        Matcher m = Pattern.compile("\\b(Integer|Long|Math|System|Arrays|Character|List|Objects?|String|Boolean)\\.\\w+")
            .matcher(code());
        while (m.find()) {
            d.due("the source uses " + m.group(), may.contains(m.group()) ? 1 : 0, 1);
        }
        Matcher made = Pattern.compile("\\bnew (\\w+)").matcher(code());
        Set<String> makes = Set.of("Island", "Reader", "Tape", "Sheet", "int", "long", "boolean");
        while (made.find()) {
            d.due("the source makes " + made.group(1), makes.contains(made.group(1)) ? 1 : 0, 1);
        }
    }

    /** Rule 11: some sixty lines a method. */
    private static void methodLengths() throws IOException {
        String[] lines = code().split("\n", -1);
        Pattern head = Pattern.compile("^( +)(?:(?:public|private|static|final) )*[\\w\\[\\]]+ ?\\w*\\(.*\\) \\{$");
        int methods = 0;
        for (int i = 0; i < lines.length; i++) {
            Matcher m = head.matcher(lines[i]);
            if (!m.matches() || lines[i].matches(" +(if|for|while|switch|\\}).*")) {
                continue;
            }
            int end = i;
            while (end < lines.length && !lines[end].equals(m.group(1) + "}")) {
                end++;
            }
            methods++;
            d.due("lines of " + lines[i].trim(), end - i < 60 ? 1 : 0, 1);
        }
        d.due("methods seen", methods > FACE.length ? 1 : 0, 1);
    }
}
