import java.io.IOException;
import java.io.UncheckedIOException;
import java.nio.file.Files;
import java.nio.file.Path;
import java.util.ArrayList;
import java.util.List;

/** The sentences of ../shared/DOC.md: those of the Terms as promise 0, those of a promise under its number. */
final class Document {
    static final Path PATH = Path.of("../shared/DOC.md");
    static final int TERMS = 0;

    private static final String PROMISE = "## Promise ";

    record Sentence(int promise, String text) { }

    private Document() { }

    static List<Sentence> sentences() {
        List<Sentence> found = new ArrayList<>();
        int section = -1;
        for (String paragraph : read().replaceAll("(?s)```.*?```", "").split("\n\n+")) {
            if (paragraph.startsWith("## ")) {
                section = sectionOf(paragraph);
            } else if (section >= 0 && !paragraph.startsWith("- ") && !paragraph.startsWith("Ahead of the calls")) {
                for (String text : withoutFace(oneLine(paragraph)).split("(?<=\\.) (?=[A-Z])")) {
                    found.add(new Sentence(section, text));
                }
            }
        }
        return found;
    }

    private static String read() {
        try {
            return Files.readString(PATH);
        } catch (IOException e) {
            throw new UncheckedIOException(e);
        }
    }

    private static int sectionOf(String heading) {
        if (heading.startsWith(PROMISE)) {
            return Integer.parseInt(heading.substring(PROMISE.length(), heading.indexOf(':')));
        }
        return heading.startsWith("## Terms") ? TERMS : -1;
    }

    private static String oneLine(String paragraph) {
        return paragraph.strip().replaceAll("\\s+", " ");
    }

    private static String withoutFace(String text) {
        return text.replaceFirst("^`[^`]*`: ", "");
    }
}
