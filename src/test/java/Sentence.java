import java.io.IOException;
import java.nio.file.Files;
import java.nio.file.Path;
import java.util.ArrayList;
import java.util.List;
import java.util.Map;
import java.util.TreeMap;

/**
 * Tests that each hold one sentence of the document. A fault names the promise and the sentence; the words must stand in
 * that part of ../shared/DOC.md, so that no test holds what the document does not say (or says no more).
 */
final class Sentence {
    private static final Path DOCUMENT = Path.of("..", "shared", "DOC.md");
    private static final Map<String, List<String>> TOLD = new TreeMap<>();
    private static final Map<String, List<String>> DOC = read();

    private Sentence() {
    }

    static void of(int promise, String words, Runnable test) {
        of("Promise " + promise, words, test);
    }

    static void of(String part, String words, Runnable test) {
        Check.topic = part + ", \"" + words + "\": ";
        TOLD.computeIfAbsent(part, key -> new ArrayList<>()).add(words);
        if (!DOC.isEmpty()) Check.same("stands in the document", stands(part, words), true);
        try {
            test.run();
        } catch (RuntimeException e) {
            Check.same("the test", "throws " + e, "ends");
        }
        Check.topic = "";
    }

    /** Every line of a promise that names a range, an exception or NONE has a test of its own. */
    static void noneIsMissing() {
        DOC.forEach((part, lines) -> {
            if (!part.startsWith("Promise ")) return;
            for (String line : lines) {
                boolean edge = line.startsWith("Throws ") || line.startsWith("- ") || line.contains("NONE");
                if (edge) Check.same(part + " has a test for: " + line, isTold(part, line), true);
            }
        });
        int sentences = TOLD.values().stream().mapToInt(List::size).sum();
        System.out.println(sentences + " sentences" + (DOC.isEmpty() ? ", not compared with " + DOCUMENT : ""));
    }

    private static boolean isTold(String part, String line) {
        return TOLD.getOrDefault(part, List.of()).stream().anyMatch(words -> line.contains(words) || words.contains(line));
    }

    /** A sentence may go over the end of a line. */
    private static boolean stands(String part, String words) {
        return String.join(" ", DOC.getOrDefault(part, List.of())).contains(words);
    }

    /** The lines of each part, without the marks of code; no part at all if the document is not there. */
    private static Map<String, List<String>> read() {
        Map<String, List<String>> parts = new TreeMap<>();
        if (!Files.isReadable(DOCUMENT)) return parts;
        String part = "";
        try {
            for (String line : Files.readAllLines(DOCUMENT)) {
                if (line.startsWith("## ")) part = line.substring(3).split(":")[0];
                else if (line.matches("[A-Z ]+")) part = line;
                else parts.computeIfAbsent(part, key -> new ArrayList<>()).add(line.replace("`", "").strip());
            }
        } catch (IOException e) {
            throw new IllegalStateException(DOCUMENT + " can't be read", e);
        }
        return parts;
    }
}
