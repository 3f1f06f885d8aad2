import java.io.IOException;
import java.lang.reflect.Method;
import java.nio.charset.StandardCharsets;
import java.nio.file.Files;
import java.nio.file.Path;
import java.util.ArrayList;
import java.util.List;

/**
 * The tests of edges bear the document's own words, and no refusal that a promise names goes without one:
 * so a sentence that changes there, or a test that is taken away here, is told.
 */
public final class QuoteTest {
    private static final Path DOCUMENT = Path.of("../shared/DOC.md");
    private static final int PROMISES = 28;
    private static final String[] REFUSALS = {"UNKNOWN", "OUTSIDE", "STATE", "FULL", "NONE"};
    private static final List<Class<?>> TESTS = List.of(TextsEdgeTest.class, PeopleEdgeTest.class,
            WordsEdgeTest.class, CardsEdgeTest.class, WholeEdgeTest.class);

    public static void main(String[] args) throws IOException {
        Due due = new Due("the words of the document");
        if (Files.exists(DOCUMENT)) {
            compare(due, Files.readString(DOCUMENT, StandardCharsets.UTF_8).replaceAll("\\s+", " "));
        } else {
            System.out.println("the document is not here: its words are not looked at");
        }
        due.end();
    }

    private static void compare(Due due, String document) {
        for (int promise = 0; promise <= PROMISES; promise++) {
            String words = wordsOf(document, promise);
            StringBuilder quoted = new StringBuilder();
            for (String quote : quotes(promise)) {
                due.yes("promise " + promise + " says \"" + quote + "\"", words.contains(quote));
                quoted.append(quote).append('\n');
            }
            due.yes("promise " + promise + " has a test of an edge", quoted.length() > 0);
            for (String refusal : REFUSALS) {
                boolean isNamed = promise > 0 && words.contains(refusal);
                due.yes("promise " + promise + " has a test of " + refusal,
                        !isNamed || quoted.indexOf(refusal) >= 0);
            }
        }
    }

    /** What stands under the promise's head, or, for 0, ahead of all promises. */
    private static String wordsOf(String document, int promise) {
        int from = promise == 0 ? 0 : document.indexOf("## Promise " + promise + ": ");
        int to = promise == PROMISES ? document.indexOf("## Not promised")
                : document.indexOf("## Promise " + (promise + 1) + ": ");
        return from >= 0 && to >= from ? document.substring(from, to) : "";
    }

    private static List<String> quotes(int promise) {
        List<String> all = new ArrayList<>();
        for (Class<?> tests : TESTS) {
            for (Method test : Edges.sayings(tests)) {
                Edges.Says says = test.getAnnotation(Edges.Says.class);
                if (says.promise() == promise) {
                    all.add(says.value());
                }
            }
        }
        return all;
    }
}
