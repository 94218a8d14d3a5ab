import java.io.IOException;
import java.io.UncheckedIOException;
import java.nio.file.Files;
import java.nio.file.Path;
import java.util.ArrayList;
import java.util.List;
import java.util.Set;
import java.util.TreeSet;
import java.util.stream.Collectors;

/** The sentences of DOC.md, so that a test can ask whether each of them is tested. */
final class Document {
    private static final int PROMISES = 60;
    private static final String REFUSAL = "Throws ";

    private final String text;

    Document(String[] args) {
        Path shared = Path.of(args.length > 0 ? args[0] : "../shared");
        try {
            text = Files.readString(shared.resolve("DOC.md"));
        } catch (IOException e) {
            throw new UncheckedIOException(e);
        }
    }

    /** The sentences of the section "Terms", without its headings and what it says of the interface's groups. */
    Set<String> terms() {
        Set<String> sentences = new TreeSet<>();
        for (String paragraph : paragraphs(between("## Terms\n", "## Promise 1:"))) {
            if (!paragraph.startsWith("Ahead of the calls")) {
                sentences.addAll(sentences(paragraph));
            }
        }
        sentences.removeIf(sentence -> sentence.matches("[A-Z][a-z]+\\."));
        return sentences;
    }

    /** Each line "Throws .. if ..", behind the number of its promise. */
    Set<String> refusals() {
        return promised(true);
    }

    /** Each sentence that says what a call does or answers, behind the number of its promise. */
    Set<String> answers() {
        return promised(false);
    }

    private Set<String> promised(boolean refusals) {
        Set<String> found = new TreeSet<>();
        for (int promise = 1; promise <= PROMISES; promise++) {
            for (String paragraph : paragraphs(sectionOf(promise))) {
                boolean isSaid = !paragraph.startsWith("## ") && !paragraph.startsWith("- ");
                if (isSaid && paragraph.startsWith(REFUSAL) == refusals) {
                    for (String sentence : sentences(paragraph.replaceFirst("^`[^`]*`: ", ""))) {
                        found.add(promise + ": " + sentence.replace("`", ""));
                    }
                }
            }
        }
        return found;
    }

    private String sectionOf(int promise) {
        return between("## Promise " + promise + ":", promise == PROMISES ? "## Not promised" : "## Promise " + (promise + 1) + ":");
    }

    private String between(String start, String end) {
        int from = text.indexOf(start);
        int to = text.indexOf(end);
        if (from < 0 || to < from) {
            throw new IllegalStateException("DOC.md has no part from " + start + " to " + end);
        }
        return text.substring(from, to).replaceFirst("^## .*\n", "");
    }

    private static List<String> paragraphs(String part) {
        List<String> paragraphs = new ArrayList<>();
        for (String paragraph : part.split("\n\n")) {
            String folded = paragraph.trim().replaceAll("\\s+", " ");
            if (!folded.isEmpty()) {
                paragraphs.add(folded);
            }
        }
        return paragraphs;
    }

    private static List<String> sentences(String paragraph) {
        return List.of(paragraph.split("(?<=\\.) (?=[A-Z])")).stream().collect(Collectors.toList());
    }
}
