import java.io.IOException;
import java.lang.reflect.Constructor;
import java.lang.reflect.Field;
import java.lang.reflect.Method;
import java.lang.reflect.Modifier;
import java.nio.file.Files;
import java.nio.file.Path;
import java.util.Arrays;
import java.util.Set;
import java.util.TreeSet;
import java.util.regex.Matcher;
import java.util.regex.Pattern;
import java.util.stream.Collectors;

/** The rules of LANGUAGE.md that a look at the source and at the class's members can tell, and the public face. */
public final class LanguageTest {
    private static final String FACE = """
        public int physics(int,int)
        public int feed(int,int)
        public int fighter()
        public int load(int,int,int)
        public long of(int,int,int)
        public int clear()
        public int set(int,int)
        public int run(int)
        public int cell(int,int)
        public int thread(int,int)
        public int died(int,int)
        public int state(int)
        public int duel(int,int,int,int)
        public int all(int,int,int)
        public int key(int,int)
        public int tune(int,int,int,int)
        public int worth(int)
        public int ladder(int)
        public int ring(int)
        public int unlike(int,int)
        public int garden(int,int)
        public int sturdy(int)
        public int round(int)
        public int same(int,int)
        public int image()
        public int back()
        public int act(int,int,int)
        public int trace(int)
        public int taken(int,int)
        public int count(int)
        public int tape(int,int,int)
        public int item(int,int,long)
        public long read(int,int)
        public int shift(int,int,int,int,int)
        """;
    private static final Due due = new Due();

    public static void main(String[] args) throws IOException {
        String source = Files.readString(Path.of("src/main/java/RingWars.java"));
        String bare = bare(source);
        face();
        members();
        words(bare);
        statics();
        sizes(bare);
        rows(bare);
        due.end();
    }

    /** The source without comments, and with its texts and signs emptied. */
    private static String bare(String source) {
        return source.replaceAll("(?s)/\\*.*?\\*/", " ").replaceAll("//[^\n]*", " ")
            .replaceAll("\"[^\"\n]*\"", "\"\"").replaceAll("'(\\\\.|[^'\\\\])'", "'x'");
    }

    private static void face() {
        Set<String> want = FACE.lines().collect(Collectors.toCollection(TreeSet::new));
        Set<String> got = new TreeSet<>();
        for (Method m : RingWars.class.getDeclaredMethods()) {
            if (!Modifier.isPrivate(m.getModifiers())) {
                String types = Arrays.stream(m.getParameterTypes()).map(Class::getName).collect(Collectors.joining(","));
                got.add(Modifier.toString(m.getModifiers()) + " " + m.getReturnType() + " " + m.getName() + "(" + types
                    + ")");
            }
        }
        due.is("the methods", got.toString(), want.toString());
        Set<String> fields = new TreeSet<>();
        for (Field f : RingWars.class.getDeclaredFields()) {
            if (!Modifier.isPrivate(f.getModifiers())) {
                fields.add(Modifier.toString(f.getModifiers()) + " " + f.getType() + " " + f.getName());
            }
        }
        due.is("the constants", fields.toString(), "[public static final int BAD, public static final int FULL, "
            + "public static final int NONE, public static final int STATE, public static final long NO]");
        Constructor<?>[] made = RingWars.class.getDeclaredConstructors();
        due.is("the constructor", made.length + Modifier.toString(made[0].getModifiers()) + made[0].getParameterCount(),
            "1public0");
        due.is("the class", Modifier.toString(RingWars.class.getModifiers()), "public final");
    }

    private static void members() {
        Set<String> open = Arrays.stream(RingWars.class.getDeclaredMethods())
            .filter(m -> Modifier.isPublic(m.getModifiers())).map(Method::getName).collect(Collectors.toSet());
        for (Method m : RingWars.class.getDeclaredMethods()) {
            boolean hidden = Modifier.isPrivate(m.getModifiers());
            due.is("private " + m.getName() + " bears a public name", hidden && open.contains(m.getName()) ? 1 : 0, 0);
        }
        int classes = 1;
        for (Class<?> inner : RingWars.class.getDeclaredClasses()) {
            classes++;
            due.is(inner + " is static", Modifier.isStatic(inner.getModifiers()) ? 1 : 0, 1);
            due.is(inner + " is not public", inner.getModifiers() & (Modifier.PUBLIC | Modifier.PROTECTED), 0);
            for (Method m : inner.getDeclaredMethods()) {
                due.is(inner + " " + m.getName() + " bears a public name", open.contains(m.getName()) ? 1 : 0, 0);
                due.is(m + " takes at most seven", m.getParameterCount() <= 7 ? 1 : 0, 1);
            }
            long fields = Arrays.stream(inner.getDeclaredFields()).filter(f -> !Modifier.isStatic(f.getModifiers())).count();
            due.is(inner + " has at most twenty fields", fields <= 20 ? 1 : 0, 1);
        }
        due.is("at most twelve classes", classes <= 12 ? 1 : 0, 1);
    }

    private static void words(String bare) {
        String[] banned = {"throw", "throws", "try", "catch", "finally", "synchronized", "assert", "transient", "native",
            "volatile", "protected", "package", "hashCode", "toString", "Override", "Exact", "Object", "Thread", "Random",
            "currentTimeMillis", "nanoTime", "var", "interface"};
        for (String word : banned) {
            due.is("the word " + word, Pattern.compile("\\b" + word + "\\b").matcher(bare).find() ? 1 : 0, 0);
        }
        due.is("lambdas", bare.contains("->") ? 1 : 0, 0);
        due.is("method references", bare.contains("::") ? 1 : 0, 0);
        due.is("annotations", bare.contains("@") ? 1 : 0, 0);
        Matcher imports = Pattern.compile("import ([^;]*);").matcher(bare);
        while (imports.find()) {
            due.is("import", imports.group(1), "java.util.Arrays");
        }
        Set<String> library = Set.of("Arrays.fill", "Arrays.copyOf", "System.arraycopy", "Math.max", "Math.min", "Math.abs",
            "Math.floorMod", "Integer.bitCount", "Long.MIN_VALUE");
        Matcher calls = Pattern.compile("\\b(Arrays|System|Math|Integer|Long|String)\\.(\\w+)").matcher(bare);
        while (calls.find()) {
            String call = calls.group(1) + "." + calls.group(2);
            due.is(call + " is of the library's part", library.contains(call) ? 1 : 0, 1);
        }
        due.is("characters", bare.chars().allMatch(c -> c < 128) ? 1 : 0, 1);
    }

    private static void statics() {
        for (Class<?> type : RingWars.class.getDeclaredClasses()) {
            statics(type);
        }
        statics(RingWars.class);
    }

    private static void statics(Class<?> type) {
        Set<Class<?>> allowed = Set.of(int.class, long.class, boolean.class, char.class, String.class, int[].class,
            long[].class, char[].class, byte[].class);
        for (Field f : type.getDeclaredFields()) {
            if (Modifier.isStatic(f.getModifiers())) {
                due.is(f + " is final", Modifier.isFinal(f.getModifiers()) ? 1 : 0, 1);
                due.is(f + " is a constant", allowed.contains(f.getType()) ? 1 : 0, 1);
            }
        }
    }

    /** No method has more than sixty lines. */
    private static void sizes(String bare) {
        String[] lines = bare.split("\n");
        int start = -1;
        String end = "";
        for (int i = 0; i < lines.length; i++) {
            Matcher head = Pattern.compile("^( {4}| {8})\\S.*\\) \\{$").matcher(lines[i]);
            if (start < 0 && head.matches()) {
                start = i;
                end = head.group(1) + "}";
            } else if (start >= 0 && lines[i].equals(end)) {
                due.is(lines[start].trim() + " is short", i - start <= 60 ? 1 : 0, 1);
                start = -1;
            }
        }
    }

    /** Rows and objects are made in constructors and fields alone: calls take no room. */
    private static void rows(String bare) {
        String end = "";
        for (String line : bare.split("\n")) {
            Matcher head = Pattern.compile("^( {4}| {8})(public )?(RingWars|War|Trials)\\(.*\\{$").matcher(line);
            if (head.matches()) {
                end = head.group(1) + "}";
            } else if (line.equals(end)) {
                end = "";
            } else if (line.contains("new ") || line.contains("copyOf(") || line.contains("clone(")) {
                boolean field = line.matches("^ {8}(private )?final .* = new .*;$");
                due.is("room is made in \"" + line.trim() + "\"", !end.isEmpty() || field ? 1 : 0, 1);
            }
        }
    }
}
