import java.io.IOException;
import java.nio.charset.StandardCharsets;
import java.nio.file.Files;
import java.nio.file.Path;
import java.util.ArrayList;
import java.util.LinkedHashMap;
import java.util.List;
import java.util.Map;

/** The document's sentences that need a test, by the headings under which they stand. */
final class Document {
    private static final Path PLACE = Path.of("../shared/DOC.md");
    /** The face has a test of its own, and what is not promised needs none. */
    private static final List<String> LEFT_OUT = List.of("ForgettingArchive", "The public face", "Not promised");
    /** Sentences that promise nothing by themselves. */
    private static final List<String> MERE_WORDS = List.of("An archive that forgets by schedule", "Ahead of the calls");

    private final Map<String, List<String>> sentences = new LinkedHashMap<>();

    Document() throws IOException {
        String heading = "";
        for (String line : Files.readAllLines(PLACE, StandardCharsets.UTF_8)) {
            if (line.startsWith("#")) {
                heading = line.replaceFirst("^#+ ", "").replaceFirst(":.*", "");
            } else if (!LEFT_OUT.contains(heading) && !line.startsWith("```")) {
                cut(heading, line.trim());
            }
        }
    }

    private void cut(String heading, String line) {
        boolean isAnswer = heading.startsWith("Promise") && line.startsWith("Returns");
        for (String sentence : line.split(isAnswer ? "; " : "(?<=[.]|[.][)]) ")) {
            if (!sentence.isEmpty() && MERE_WORDS.stream().noneMatch(sentence::startsWith)) {
                sentences.computeIfAbsent(heading, h -> new ArrayList<>()).add(sentence);
            }
        }
    }

    List<String> headings() {
        return new ArrayList<>(sentences.keySet());
    }

    List<String> under(String heading) {
        return sentences.getOrDefault(heading, List.of());
    }
}
