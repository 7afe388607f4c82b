import java.lang.reflect.Method;
import java.lang.reflect.Modifier;
import java.nio.file.Files;
import java.nio.file.Path;
import java.util.ArrayList;
import java.util.List;

/** README.md tells the truth: its example is the one below, line by line, and each call stands in its table. */
public final class ReadmeTest {
    private static final Path README = Path.of("README.md");
    private static final Path SELF = Path.of("src/test/java/ReadmeTest.java");

    public static void main(String[] args) throws Exception {
        example();
        sameExample();
        eachCall();
        eachTest();
        Bench.close();
    }

    private static void example() {
        // README.md's example begins
        TokenDesk desk = new TokenDesk();

        desk.feed(0x6b310102, 0x03040000, 0, 0, 0);
        desk.end(6);
        int key = desk.key(0, 2);

        desk.feed(0x6a6f6500, 0, 0, 0, 0);
        desk.end(3);
        desk.text(0);
        desk.number(3, 2000);

        int size = desk.issue(0, key);
        int first = desk.octet(0);

        desk.now(1000);
        desk.policy(60, true);
        desk.back(0, size);
        int reason = desk.verify(0);

        int signs = desk.has(0);
        int sign = desk.sign(0, 0, 0);
        long expiry = desk.claim(3);
        // README.md's example ends
        Bench.due("the key", key, 0);
        String header = Bench.base64(Bench.ascii("{\"alg\":\"HS256\",\"kid\":\"k1\"}"));
        String payload = Bench.base64(Bench.ascii("{\"iss\":\"joe\",\"exp\":2000}"));
        Bench.due("the token's length", size, header.length() + payload.length() + 2 + 43);
        Bench.due("its first byte", first, 101);
        Bench.due("the reason", reason, 0);
        Bench.due("the issuer's length", signs, 3);
        Bench.due("its first sign", sign, 106);
        Bench.due("the expiry", expiry, 2000);
    }

    private static void sameExample() throws Exception {
        List<String> told = between(README, "```java", "```");
        List<String> run = between(SELF, "// README.md's example begins", "// README.md's example ends");
        Bench.due("the example has lines", told.isEmpty(), false);
        Bench.due("the example is " + told + ", what is run " + run, told.equals(run), true);
    }

    /** The lines that have code, without their comments and margins. */
    private static List<String> between(Path file, String opening, String closing) throws Exception {
        List<String> found = new ArrayList<>();
        boolean inside = false;
        for (String line : Files.readAllLines(file)) {
            String bare = line.strip();
            if (inside && bare.equals(closing)) {
                break;
            }
            String code = bare.replaceFirst("\\s*//.*$", "");
            if (inside && !code.isEmpty()) {
                found.add(code);
            }
            inside = inside || bare.equals(opening);
        }
        return found;
    }

    private static void eachCall() throws Exception {
        List<String> lines = Files.readAllLines(README);
        for (Method m : TokenDesk.class.getDeclaredMethods()) {
            if (Modifier.isPublic(m.getModifiers())) {
                String names = "\\w+(, \\w+){" + (m.getParameterCount() - 1) + "}";
                String row = "\\| `" + m.getName() + "\\(" + names + "\\)` \\|.*";
                Bench.due("rows of " + m.getName(), lines.stream().filter(line -> line.matches(row)).count(), 1);
            }
        }
    }

    private static void eachTest() throws Exception {
        String readme = Files.readString(README);
        try (var files = Files.list(SELF.getParent())) {
            for (Path file : files.toList()) {
                String name = file.getFileName().toString().replace(".java", "");
                Bench.due(name + " is told of", !name.endsWith("Test") || readme.contains("`" + name + "`"), true);
            }
        }
    }
}
