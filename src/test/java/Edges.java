import java.io.IOException;
import java.nio.file.Files;
import java.nio.file.Path;
import java.util.ArrayList;
import java.util.Arrays;
import java.util.LinkedHashMap;
import java.util.List;
import java.util.Map;

/**
 * The document's sentences, each with a test of its own. A test quotes the words that it tests: they are looked up in
 * DOC.md, and at the end no word of a promise or of the terms is left that no test has quoted.
 */
final class Edges {
    private static final Path DOCUMENT = Path.of("../shared/DOC.md");
    private static final Map<String, String> sections = new LinkedHashMap<>();
    private static final Map<String, boolean[]> quoted = new LinkedHashMap<>();
    private static final List<String> empty = new ArrayList<>();
    private static int edges;

    private Edges() {
    }

    /** Sections are named "I" to "V" (of the terms) and "1" to "19" (of the promises). */
    static void open() throws IOException {
        String name = "";
        for (String line : Files.readAllLines(DOCUMENT)) {
            if (line.startsWith("## Promise ")) {
                name = line.substring(11, line.indexOf(':'));
            } else if (line.startsWith("==== ")) {
                name = line.substring(5, line.indexOf('.'));
                add(name, line.substring(line.indexOf('.') + 1));
            } else if (line.startsWith("##")) {
                name = "";
            } else if (!name.isEmpty() && !line.startsWith("```") && !line.startsWith("The constants:")) {
                add(name, line.replaceFirst("^`[^`]*`: ", ""));
            }
        }
        for (Map.Entry<String, String> section : sections.entrySet()) {
            quoted.put(section.getKey(), new boolean[section.getValue().length()]);
        }
        Bench.due("five terms and nineteen promises", sections.size(), 24);
    }

    private static void add(String name, String line) {
        sections.merge(name, line.strip(), (all, more) -> (all + " " + more).strip());
    }

    /** A test of words that stand in a section of the document. */
    static void edge(String section, String words, Runnable test) {
        String text = sections.getOrDefault(section, "");
        int at = text.indexOf(words);
        Bench.due("section " + section + " says: " + words, at >= 0, true);
        for (int from = at; from >= 0; from = text.indexOf(words, from + 1)) {
            Arrays.fill(quoted.get(section), from, from + words.length(), true);
        }
        edges++;
        int before = Bench.asked();
        test.run();
        if (Bench.asked() == before) {
            empty.add(section + ": " + words);
        }
    }

    static void close() {
        Bench.due("tests that asked nothing: " + empty, empty.size(), 0);
        for (Map.Entry<String, String> section : sections.entrySet()) {
            boolean[] marks = quoted.get(section.getKey());
            StringBuilder left = new StringBuilder();
            for (int i = 0; i < marks.length; i++) {
                left.append(marks[i] ? ' ' : section.getValue().charAt(i));
            }
            String words = left.toString().replaceAll("[ .,;:()]+", " ").strip();
            Bench.due("section " + section.getKey() + ", words without a test: '" + words + "'", words.length(), 0);
        }
        System.out.println(edges + " sentences");
    }
}
