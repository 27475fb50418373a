import java.io.IOException;
import java.nio.file.Files;
import java.nio.file.Path;
import java.util.LinkedHashSet;
import java.util.Map;
import java.util.Set;
import java.util.TreeMap;

/**
 * The sentences of the document, each of which must get a test of its own or be said to name no
 * boundary. A sentence is found by its promise (0 is the text before promise 1) and its beginning.
 */
final class Edges {
    private final Map<Integer, Set<String>> sentences = new TreeMap<>();
    private final Set<String> seen = new LinkedHashSet<>();

    Edges(Path document) throws IOException {
        int section = 0;
        boolean inCode = false;
        for (String line : Files.readAllLines(document)) {
            if (line.startsWith("```")) {
                inCode = !inCode;
            } else if (line.startsWith("## Not promised")) {
                return;
            } else if (line.startsWith("## Promise ")) {
                section = Integer.parseInt(line.substring(11, line.indexOf(':')));
            } else if (!inCode && !line.startsWith("#")) {
                addSentences(section, line.trim());
            }
        }
    }

    private void addSentences(int section, String line) {
        for (String sentence : line.split("(?<=\\.) (?=[A-Z])")) {
            boolean isHeading = sentence.matches("|[A-Z][a-z]+\\.|Reading a rule\\.|\\d\\.|`.*`|----.*");
            if (!isHeading) {
                sentences.computeIfAbsent(section, key -> new LinkedHashSet<>()).add(sentence);
            }
        }
    }

    /** Begins a test of a sentence. */
    Script of(int promise, String beginning) {
        return new Script(promise + " \"" + sentence(promise, beginning) + "\"");
    }

    /** Says that these sentences name no boundary; what they say is tested promise by promise. */
    void none(int promise, String... beginnings) {
        for (String beginning : beginnings) {
            sentence(promise, beginning);
        }
    }

    /** Answers the whole sentence, and notes that it has been looked at. */
    String sentence(int promise, String beginning) {
        String found = "";
        int count = 0;
        for (String sentence : sentences.getOrDefault(promise, Set.of())) {
            if (sentence.startsWith(beginning)) {
                found = sentence;
                count++;
            }
        }
        Script.report("sentences of " + promise + " that begin: " + beginning, String.valueOf(count), "1");
        seen.add(promise + " " + found);
        return found;
    }

    /** Reports every sentence of the document that nobody has looked at. */
    void end() {
        Script.report("promises in the document", String.valueOf(sentences.keySet().size() - 1), "31");
        for (Map.Entry<Integer, Set<String>> section : sentences.entrySet()) {
            for (String sentence : section.getValue()) {
                boolean done = seen.contains(section.getKey() + " " + sentence);
                Script.report(section.getKey() + " \"" + sentence + "\"", done ? "tested" : "no test", "tested");
            }
        }
    }
}
