import java.lang.reflect.Method;
import java.nio.file.Files;
import java.nio.file.Path;
import java.util.LinkedHashMap;
import java.util.Map;

/** What the tests of the bounds quote stands in the document, and no word of its terms and promises is left out. */
public final class QuotesTest {
    private static final Class<?>[] TESTS = {
        LandBoundsTest.class, TextBoundsTest.class, BestBoundsTest.class, ChoiceBoundsTest.class, RoadBoundsTest.class};

    private final Due due = new Due();
    private final Map<String, StringBuilder> sections = new LinkedHashMap<>();

    /** Sections by their names ("Promise 3"), each on one line; a letter that is quoted becomes a blank in rest. */
    private final Map<String, StringBuilder> rest = new LinkedHashMap<>();

    private void read(String document) {
        for (String section : document.split("(?m)^## ")) {
            int end = section.indexOf('\n');
            if (end > 0) {
                String name = section.substring(0, end).replaceAll(":.*", "");
                String text = section.substring(end).replaceAll("(?m)```\\w*|====|^`[^`]*`:", " ").replaceAll("\\s+", " ");
                sections.put(name, new StringBuilder(text));
                rest.put(name, new StringBuilder(text));
            }
        }
    }

    private void quoted(String test, String quote) {
        int colon = quote.indexOf(": ");
        String name = quote.substring(0, Math.max(0, colon));
        String words = quote.substring(colon + 2);
        StringBuilder section = sections.get(name);
        int at = section == null ? -1 : section.indexOf(words);
        due.holds(test + " quotes what the document says: " + quote, at >= 0);
        for (int i = 0; i < words.length() && at >= 0; i++) {
            rest.get(name).setCharAt(at + i, ' ');
        }
    }

    private void noneLeftOut() {
        for (Map.Entry<String, StringBuilder> one : rest.entrySet()) {
            if (one.getKey().equals("Terms") || one.getKey().startsWith("Promise")) {
                String left = one.getValue().toString().replaceAll("[^A-Za-z0-9]{2,}", " .. ").trim();
                due.holds(one.getKey() + " has words that no test quotes: " + left, !left.matches("(?s).*[A-Za-z0-9].*"));
            }
        }
    }

    public static void main(String[] args) throws Exception {
        Path document = Path.of(System.getProperty("document", "../shared/DOC.md"));
        QuotesTest test = new QuotesTest();
        if (!Files.exists(document)) {
            System.out.println("no document at " + document + ": nothing to hold the quotes against");
            return;
        }
        test.read(Files.readString(document));
        for (Class<?> tests : TESTS) {
            for (Method m : Sentences.tests(tests)) {
                for (String quote : m.getAnnotation(Sentences.Says.class).value()) {
                    test.quoted(tests.getName() + "." + m.getName(), quote);
                }
            }
        }
        test.noneLeftOut();
        test.due.end();
    }
}
