import java.lang.reflect.Constructor;
import java.lang.reflect.Field;
import java.lang.reflect.Method;
import java.lang.reflect.Modifier;
import java.nio.file.Files;
import java.nio.file.Path;
import java.util.Arrays;
import java.util.List;
import java.util.Set;
import java.util.TreeSet;
import java.util.regex.Matcher;
import java.util.regex.Pattern;

/** The class's face as the document has it, and those rules of LANGUAGE.md that can be seen from outside or by words. */
public final class RulesTest {
    private static final String FACE = "int node 3, int pass 5, int jar 5, int month 1, int seed 1, int feed 5, int end 1, int law 0, int fill 2, int pour 1, "
        + "int store 2, boolean leave 2, int tick 2, int at 2, int of 2, int melt 2, int lay 1, boolean from 1, int tried 6, int best 8, int soonest 2, "
        + "int nearest 2, int warmer 6, int guess 9, int order 4, int serves 3, int all 2, int feast 3, int enough 3, int least 2, int nights 5, "
        + "int price 6, int ahead 3, int count 1, int image 1, int back 1";
    private static int wrong = 0;

    public static void main(String[] args) throws Exception {
        face();
        insides();
        words(Files.readString(Path.of("src/main/java/SnowMules.java")));
        room();
        System.out.println(wrong == 0 ? "the rules are kept" : wrong + " rules are broken");
        if (wrong != 0) {
            System.exit(1);
        }
    }

    private static void rule(String name, boolean kept) {
        if (!kept) {
            wrong++;
            System.out.println("broken: " + name);
        }
    }

    private static void face() {
        Class<?> c = SnowMules.class;
        rule("public and final", Modifier.isPublic(c.getModifiers()) && Modifier.isFinal(c.getModifiers()) && c.getPackageName().isEmpty());
        Set<String> due = new TreeSet<>(Arrays.asList(FACE.split(", ")));
        Set<String> seen = new TreeSet<>();
        Set<String> names = new TreeSet<>();
        for (Method m : c.getDeclaredMethods()) {
            if (Modifier.isPublic(m.getModifiers())) {
                rule("int arguments of " + m.getName(), Arrays.stream(m.getParameterTypes()).allMatch(t -> t == int.class));
                seen.add(m.getReturnType() + " " + m.getName() + " " + m.getParameterCount());
                names.add(m.getName());
            } else {
                rule("private: " + m, m.isSynthetic() || Modifier.isPrivate(m.getModifiers()));
            }
        }
        rule("methods " + seen, seen.equals(due));
        for (Class<?> inner : c.getDeclaredClasses()) {
            for (Method m : inner.getDeclaredMethods()) {
                rule("a name of the face inside: " + m, !names.contains(m.getName()));
            }
        }
        for (Method m : c.getDeclaredMethods()) {
            rule("a name of the face: " + m, Modifier.isPublic(m.getModifiers()) || !names.contains(m.getName()));
        }
        Constructor<?>[] made = c.getDeclaredConstructors();
        rule("one constructor", made.length == 1 && made[0].getParameterCount() == 0 && Modifier.isPublic(made[0].getModifiers()));
        for (Field f : c.getDeclaredFields()) {
            boolean none = f.getName().equals("NONE");
            rule("field " + f, none ? Modifier.isPublic(f.getModifiers()) : Modifier.isPrivate(f.getModifiers()));
        }
    }

    private static void insides() {
        List<Class<?>> all = new java.util.ArrayList<>(Arrays.asList(SnowMules.class.getDeclaredClasses()));
        rule("at most twelve classes", all.size() + 1 <= 12);
        all.add(SnowMules.class);
        for (Class<?> c : all) {
            rule("static: " + c, c == SnowMules.class || Modifier.isStatic(c.getModifiers()) && !Modifier.isPublic(c.getModifiers()));
            rule("no class inside: " + c, c == SnowMules.class || c.getDeclaredClasses().length == 0);
            int fields = 0;
            for (Field f : c.getDeclaredFields()) {
                boolean isStatic = Modifier.isStatic(f.getModifiers());
                rule("static and not final: " + f, !isStatic || Modifier.isFinal(f.getModifiers()));
                fields += isStatic ? 0 : 1;
            }
            rule("at most twenty fields: " + c, fields <= 20);
            for (Method m : c.getDeclaredMethods()) {
                boolean isFace = c == SnowMules.class && Modifier.isPublic(m.getModifiers());
                rule("at most seven parameters: " + m, isFace || m.getParameterCount() <= 7);
            }
        }
    }

    private static void words(String source) {
        String bare = source.replaceAll("(?s)/\\*.*?\\*/", "").replaceAll("//[^\n]*", "").replaceAll("\"[^\"\n]*\"", "\"\"");
        String[] barred = {"throw", "throws", "try", "catch", "finally", "synchronized", "assert", "import", "package", "instanceof", "double", "float",
            "protected", "native", "volatile", "transient", "Object", "hashCode", "toString", "Random", "Thread", "Integer\\.MAX_VALUE", "Integer\\.MIN_VALUE"};
        for (String word : barred) {
            rule("the word " + word, !Pattern.compile("\\b" + word + "\\b").matcher(bare).find());
        }
        rule("no lambda", !bare.contains("->") && !bare.contains("::"));
        rule("no static block", !Pattern.compile("static\\s*\\{").matcher(bare).find());
        rule("no endless loop", !Pattern.compile("while\\s*\\(true\\)|for\\s*\\(\\s*;\\s*;").matcher(bare).find());
        Matcher library = Pattern.compile("\\b(Math|Integer|Long|System|Arrays)\\.(\\w+)").matcher(bare);
        Set<String> known = Set.of("Math.max", "Math.min", "Integer.bitCount", "System.arraycopy");
        while (library.find()) {
            rule("the library's " + library.group(), known.contains(library.group()));
        }
        rule("plain signs", source.chars().allMatch(ch -> ch < 128));
        methodLengths(source.split("\n"));
    }

    private static void methodLengths(String[] lines) {
        Pattern head = Pattern.compile("^( {4}| {8})(?!if|for|while|switch)(?=\\w)[\\w\\[\\] ]+\\([^;]*\\) \\{$");
        for (int i = 0; i < lines.length; i++) {
            Matcher m = head.matcher(lines[i]);
            if (!m.matches()) {
                continue;
            }
            int end = i;
            while (end < lines.length && !lines[end].equals(m.group(1) + "}")) {
                end++;
            }
            rule("at most sixty lines: " + lines[i].trim(), end - i + 1 <= 60);
        }
    }

    /** What an object and its dearest calls make must stay far below 7.3 million fields and elements of 4 to 8 bytes. */
    private static void room() {
        com.sun.management.ThreadMXBean bean = (com.sun.management.ThreadMXBean) java.lang.management.ManagementFactory.getThreadMXBean();
        long thread = Thread.currentThread().getId();
        int sum = 0;
        long before = bean.getThreadAllocatedBytes(thread);
        SnowMules m = new SnowMules();
        m.node(1, 1, 1);
        m.node(1, 1, 1);
        m.pass(0, 1, 3, 3, 3);
        m.jar(0, 0, 0, 0, 0);
        m.from(0);
        m.lay(0);
        m.feed(0x6d656c74, 0x20312020, 0x20202020, 0x20202020, 0x20202020);
        sum += m.law();
        for (int i = 0; i < 100; i++) {
            sum += m.nights(0, 0, 1000, 20, 0) + m.ahead(0, 240, 0) + m.best(0, 0, 1, 0, 1000, 0, 0, 0) + m.image(i % 4) + m.back(i % 4);
        }
        long bytes = bean.getThreadAllocatedBytes(thread) - before;
        rule("room: " + bytes + " bytes " + sum, bytes < 100000);
    }
}
