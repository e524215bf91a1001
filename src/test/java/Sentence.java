import java.util.ArrayList;
import java.util.HashSet;
import java.util.LinkedHashMap;
import java.util.List;
import java.util.Map;
import java.util.Set;

/** Runs tests that are named by the document's heading, its words there, and the case that is looked at. */
final class Sentence {
    interface Test {
        void run();
    }

    private static final Map<String, List<String>> WORDS = new LinkedHashMap<>();
    private static final Set<String> NAMES = new HashSet<>();
    private static String heading = "";

    private Sentence() {
    }

    /** The heading of the tests that follow. */
    static void under(String documentHeading) {
        heading = documentHeading;
    }

    /** A test of its own: it must look at an answer, and its words must stand in the document. */
    static void test(String words, String edge, Test test) {
        String name = heading + " | " + words + " | " + edge;
        int wrong = Due.wrong(), looked = Due.looked();
        if (!NAMES.add(name)) Due.fails("there are two tests of this name");
        if (Doc.isThere() && !Doc.under(heading).contains(words)) Due.fails("the document does not say this");
        WORDS.computeIfAbsent(heading, h -> new ArrayList<>()).add(words);
        try {
            test.run();
        } catch (RuntimeException e) {
            Due.fails("the test ended by " + e);
        }
        if (Due.looked() == looked) Due.fails("the test looked at no answer");
        System.out.println((Due.wrong() == wrong ? "   ok  " : "WRONG  ") + name);
    }

    /** The words under a heading that the tests which have run were named by. */
    static List<String> wordsUnder(String documentHeading) {
        return WORDS.getOrDefault(documentHeading, List.of());
    }
}
