import java.io.IOException;
import java.io.UncheckedIOException;
import java.nio.file.Files;
import java.nio.file.Path;
import java.util.ArrayList;
import java.util.LinkedHashMap;
import java.util.List;
import java.util.Map;

/** The document's text by its headings, so that the words by which tests are named can be looked up in it. */
final class Doc {
    private static final Path FILE = Path.of("..", "shared", "DOC.md");
    private static final Map<String, String> SECTIONS = read();

    private Doc() {
    }

    static boolean isThere() {
        return !SECTIONS.isEmpty();
    }

    /** What stands under a heading, in one line and without the call's declaration; empty when there is no such heading. */
    static String under(String heading) {
        return SECTIONS.getOrDefault(heading, "").replaceFirst("^`[^`]*`: ", "");
    }

    /** The headings that tell what the program does. */
    static List<String> headings() {
        List<String> headings = new ArrayList<>();
        for (String heading : SECTIONS.keySet()) {
            boolean told = heading.startsWith("Promise ") || heading.equals("Terms") || heading.equals("What it is");
            if (told) headings.add(heading);
        }
        return headings;
    }

    /** The parts of sentences under a heading, from comma to comma; ".." is no end of a part. */
    static String[] parts(String heading) {
        return under(heading).split("(?<=[^.][.;:,])\\s");
    }

    private static Map<String, String> read() {
        Map<String, String> sections = new LinkedHashMap<>();
        String heading = "";
        for (String line : lines()) {
            if (line.startsWith("## ")) heading = line.substring(3).strip();
            else sections.merge(heading, line.strip(), (above, below) -> (above + " " + below).strip());
        }
        return sections;
    }

    private static List<String> lines() {
        try {
            return Files.exists(FILE) ? Files.readAllLines(FILE) : List.of();
        } catch (IOException e) {
            throw new UncheckedIOException(e);
        }
    }
}
