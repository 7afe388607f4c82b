import java.lang.management.ManagementFactory;
import java.lang.reflect.Constructor;
import java.lang.reflect.Field;
import java.lang.reflect.Method;
import java.lang.reflect.Modifier;
import java.nio.file.Files;
import java.nio.file.Path;
import java.util.Arrays;
import java.util.TreeSet;

/** The face of the class, and those rules of LANGUAGE.md that can be looked up: run it in the project's root. */
public final class LanguageTest {
    private static final String[] FACE = {
        "int back(int, int)", "int count(int)", "int end(int)", "int feed(int, int, int, int, int)", "int has(int)", "int hash(int, int)",
        "int issue(int, int)", "int key(int, int)", "long claim(int)", "boolean now(long)", "boolean number(int, long)", "int octet(int)",
        "boolean policy(int, boolean)", "int sign(int, int, int)", "int text(int)", "int unset(int)", "int verify(int)", "int wants(int)",
    };

    public static void main(String[] args) throws Exception {
        face();
        insideClasses();
        words();
        methodLengths();
        room();
        Bench.close();
    }

    private static void face() throws Exception {
        Class<?> c = TokenDesk.class;
        Bench.due("public and final", c.getModifiers(), Modifier.PUBLIC | Modifier.FINAL);
        Bench.due("NONE", TokenDesk.NONE, -1);
        TreeSet<String> methods = new TreeSet<>();
        TreeSet<String> open = new TreeSet<>();
        for (Method m : c.getDeclaredMethods()) {
            String types = Arrays.toString(Arrays.stream(m.getParameterTypes()).map(Class::getName).toArray());
            if (!Modifier.isPrivate(m.getModifiers())) {
                methods.add(m.getReturnType() + " " + m.getName() + "(" + types.substring(1, types.length() - 1) + ")");
                open.add(m.getName());
                Bench.due(m + " is public alone", m.getModifiers(), Modifier.PUBLIC);
            }
        }
        Bench.due("the methods " + methods, methods.equals(new TreeSet<>(Arrays.asList(FACE))), true);
        for (Method m : c.getDeclaredMethods()) {
            Bench.due(m + " has a name of its own", Modifier.isPrivate(m.getModifiers()) && open.contains(m.getName()), false);
        }
        for (Field f : c.getDeclaredFields()) {
            Bench.due(f + " is private", Modifier.isPrivate(f.getModifiers()), !f.getName().equals("NONE"));
        }
        Constructor<?>[] made = c.getDeclaredConstructors();
        Bench.due("constructors", made.length, 1);
        Bench.due("its parameters", made[0].getParameterCount(), 0);
        Bench.due("it is public", made[0].getModifiers(), Modifier.PUBLIC);
    }

    private static void insideClasses() {
        Class<?>[] inside = TokenDesk.class.getDeclaredClasses();
        Bench.due("twelve classes at most", inside.length + 1 <= 12, true);
        for (Class<?> c : inside) {
            Bench.due(c + " is static and not public", Modifier.isStatic(c.getModifiers()) && !Modifier.isPublic(c.getModifiers()), true);
            limits(c);
        }
        limits(TokenDesk.class);
    }

    private static void limits(Class<?> c) {
        int fields = 0;
        for (Field f : c.getDeclaredFields()) {
            if (Modifier.isStatic(f.getModifiers())) {
                Bench.due(f + " is final", Modifier.isFinal(f.getModifiers()), true);
            } else {
                fields++;
            }
        }
        Bench.due(c + " has twenty fields at most", fields <= 20, true);
        for (Method m : c.getDeclaredMethods()) {
            Bench.due(m + " takes seven at most", m.getParameterCount() <= 7, true);
        }
    }

    private static String source() throws Exception {
        return Files.readString(Path.of("src/main/java/TokenDesk.java"));
    }

    /** The code without its comments, texts and characters. */
    private static String bareCode() throws Exception {
        return source().replaceAll("(?s)/\\*.*?\\*/|//[^\n]*|'(\\\\.|[^'\\\\])'|\"([^\"\\\\\n]|\\\\.)*+\"", " ");
    }

    private static void words() throws Exception {
        String code = bareCode();
        String[] refused = {"throw", "throws", "try", "catch", "finally", "synchronized", "assert", "import", "package", "native", "volatile",
            "transient", "protected", "double", "float", "Object", "hashCode", "toString", "Thread", "Random", "System\\.(?!arraycopy)\\w+"};
        for (String word : refused) {
            Bench.due("no word " + word, java.util.regex.Pattern.compile("\\b" + word + "\\b").matcher(code).find(), false);
        }
        Bench.due("no lambda", code.contains("->"), false);
        Bench.due("no method reference", code.contains("::"), false);
        Bench.due("no static block", java.util.regex.Pattern.compile("static\\s*\\{").matcher(code).find(), false);
        for (char c : source().toCharArray()) {
            if (c > 126) {
                Bench.due("no sign above 126", c, 0);
            }
        }
    }

    private static void methodLengths() throws Exception {
        String[] lines = source().split("\n");
        int start = -1;
        String closing = "";
        for (int i = 0; i < lines.length; i++) {
            String line = lines[i];
            String margin = line.substring(0, line.length() - line.stripLeading().length());
            boolean opens = line.endsWith(") {") && (margin.length() == 4 || margin.length() == 8)
                    && !line.strip().matches("(if|for|while|switch|\\}).*");
            if (opens && start < 0) {
                start = i;
                closing = margin + "}";
            } else if (start >= 0 && line.equals(closing)) {
                Bench.due("line " + (start + 1) + ": a method of sixty lines at most", i - start + 1 <= 60, true);
                start = -1;
            }
        }
    }

    /** A desk is small, and no call makes an object: what the dearest calls take in all is what the machine itself takes. */
    private static void room() {
        com.sun.management.ThreadMXBean beans = (com.sun.management.ThreadMXBean) ManagementFactory.getThreadMXBean();
        dearCalls(new TokenDesk(), 60);
        long before = beans.getCurrentThreadAllocatedBytes();
        TokenDesk x = new TokenDesk();
        long made = beans.getCurrentThreadAllocatedBytes();
        // 60 rounds of 8 calls: no more than the 512 calls that are promised.
        dearCalls(x, 60);
        long after = beans.getCurrentThreadAllocatedBytes();
        Bench.due("a desk of " + (made - before) + " bytes", made - before < 60_000, true);
        Bench.due("calls that take " + (after - made) + " bytes", after - made < 2_000, true);
    }

    private static void dearCalls(TokenDesk x, int calls) {
        x.feed(0x71717171, 0x71717171, 1, 2, 3);
        x.key(1, 2);
        for (int i = 0; i < calls; i++) {
            int family = i % 2;
            x.issue(family, 0);
            x.back(0, x.count(7));
            x.hash(1 - family, 5);
            x.verify(family);
            x.feed(0x71717171, 0x71717171, 1, 2, 3);
            x.text(0);
            x.sign(0, 0, 0);
        }
    }
}
