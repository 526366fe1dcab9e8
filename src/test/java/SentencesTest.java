import java.io.IOException;
import java.lang.reflect.Method;
import java.nio.file.Files;
import java.nio.file.Path;
import java.util.ArrayList;
import java.util.List;
import java.util.Set;
import java.util.TreeSet;

/** Each sentence of the document's terms and promises is quoted by a test of boundaries, and nothing else is quoted. */
public final class SentencesTest {
    private static final Path DOCUMENT = Path.of("../shared/DOC.md");
    private static final Class<?>[] TESTS = {EdgesOfTermsTest.class, EdgesOfReasonsTest.class, EdgesOfCallsTest.class,
        EdgesOfAnswersTest.class, EdgesOfTextsTest.class};
    private static final int PROMISES = 38;

    public static void main(String[] args) throws IOException {
        String document = Files.readString(DOCUMENT);
        for (int promise = 0; promise <= PROMISES; promise++) {
            Set<String> told = promise == 0 ? termsOf(document) : sentencesOf(document, promise);
            Set<String> quoted = quoted(promise);
            Check.same("whether promise " + promise + " tells anything", true, !told.isEmpty());
            Check.same("what no test quotes of promise " + promise, "[]", without(told, quoted));
            Check.same("what is quoted, but not told by promise " + promise, "[]", without(quoted, told));
        }
        Check.end("SentencesTest");
    }

    private static Set<String> quoted(int promise) {
        Set<String> found = new TreeSet<>();
        for (Class<?> tests : TESTS) {
            for (Method method : tests.getDeclaredMethods()) {
                Says says = method.getAnnotation(Says.class);
                if (says != null && says.promise() == promise) {
                    found.addAll(List.of(says.value()));
                }
            }
        }
        return found;
    }

    private static Set<String> without(Set<String> all, Set<String> some) {
        Set<String> left = new TreeSet<>(all);
        left.removeAll(some);
        return left;
    }

    /** The terms, and how many calls an object is used for; the words that only head a paragraph are left out. */
    private static Set<String> termsOf(String document) {
        Set<String> found = new TreeSet<>();
        for (String sentence : joined(section(document, "Terms")).split("(?<=[.;])\\s+")) {
            if (!sentence.matches("\\w+\\.")) {
                found.add(sentence);
            }
        }
        for (String sentence : joined(section(document, "What it is")).split("(?<=[.;])\\s+")) {
            if (sentence.contains("512")) {
                found.add(sentence);
            }
        }
        return found;
    }

    private static Set<String> sentencesOf(String document, int promise) {
        Set<String> found = new TreeSet<>();
        List<String> parts = new ArrayList<>(List.of(section(document, "Promise " + promise + ": ").split("\n\\s*\n|\n(?=- )")));
        // The first part tells the method's head, and what it does behind a colon.
        String first = joined(parts.remove(0));
        found.addAll(List.of(first.substring(first.indexOf(": ") + 2).split("(?<=\\.)\\s+")));
        for (String part : parts) {
            found.addAll(List.of(joined(part).replaceFirst("^- ", "").split("(?<=\\.)\\s+")));
        }
        return found;
    }

    private static String section(String document, String title) {
        int start = document.indexOf("\n## " + title);
        if (start < 0) {
            throw new IllegalStateException("the document has no section " + title);
        }
        int body = document.indexOf('\n', start + 1);
        int end = document.indexOf("\n## ", body);
        return document.substring(body, end).strip();
    }

    private static String joined(String text) {
        return text.replace("`", "").replaceAll("\\s+", " ").strip();
    }
}
