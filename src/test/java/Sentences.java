import java.io.IOException;
import java.nio.file.Files;
import java.nio.file.Path;
import java.util.ArrayList;
import java.util.List;
import java.util.Map;
import java.util.TreeMap;

/**
 * The document's sentences. Each test names the words that it tests, which must stand in the document, and in the end
 * no sentence may be without a test.
 */
final class Sentences {
    private static final Path DOC = Path.of("../shared/DOC.md");
    private static final int PROMISES = 22;

    /** The document's lines by the promise they belong to: 0 for all that stands ahead of the first one. */
    private final Map<Integer, List<String>> sentences = new TreeMap<>();
    private final Map<Integer, List<String>> tested = new TreeMap<>();

    Sentences() throws IOException {
        int promise = 0;
        for (String line : Files.readAllLines(DOC)) {
            if (line.startsWith("## Promise ")) {
                promise = Integer.parseInt(line.replaceAll("\\D+(\\d+).*", "$1"));
            } else if (line.startsWith("## Not promised")) {
                break;
            } else if (!line.isBlank()) {
                take(promise, line);
            }
        }
        Check.due("the document's promises", PROMISES, () -> sentences.size() - 1);
    }

    private void take(int promise, String line) {
        List<String> lines = sentences.computeIfAbsent(promise, p -> new ArrayList<>());
        if (promise > 0) {
            lines.add(line);
        } else {
            lines.addAll(List.of(line.split("(?<=[.;]) ")));
        }
    }

    void terms(String words, Runnable edges) {
        promise(0, words, edges);
    }

    void promise(int promise, String words, Runnable edges) {
        boolean stands = sentences.get(promise).stream().anyMatch(s -> s.contains(words));
        Check.isTrue("promise " + promise + " says: " + words, stands);
        tested.computeIfAbsent(promise, p -> new ArrayList<>()).add(words);
        int before = Check.asked();
        Run.under("promise " + promise + ", '" + words + "'");
        edges.run();
        Check.isTrue("promise " + promise + " has a test of: " + words, Check.asked() > before);
    }

    void allAreTested() {
        for (Map.Entry<Integer, List<String>> entry : sentences.entrySet()) {
            List<String> words = tested.getOrDefault(entry.getKey(), List.of());
            for (String sentence : entry.getValue()) {
                boolean is = namesNoEdge(sentence) || words.stream().anyMatch(sentence::contains);
                Check.isTrue("promise " + entry.getKey() + " has a test of: " + sentence, is);
            }
        }
    }

    /** Headings, the face, what is free, and whose number it is (its edges stand in a throws clause). */
    private static boolean namesNoEdge(String sentence) {
        return sentence.startsWith("#") || sentence.startsWith("```") || sentence.startsWith("public ")
                || sentence.startsWith("    ") || sentence.equals("}") || sentence.startsWith("An animation house:")
                || sentence.equals("Assets, poses") || sentence.startsWith("Ahead of the calls ")
                || sentence.startsWith("Bones, keys, versions, scenes, cuts, notes and renderings are told;")
                || sentence.equals("what later calls answer is free.")
                || sentence.matches("- `\\w+`: its number( in the scene)?");
    }
}
