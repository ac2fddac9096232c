import java.io.IOException;
import java.lang.reflect.Method;
import java.nio.file.Files;
import java.nio.file.Path;
import java.util.ArrayList;
import java.util.List;

/** Every marked test is for words that the document has, and every sentence of the document has one. */
public final class DocumentTest {
    private static final Path DOCUMENT = Path.of("..", "shared", "DOC.md");
    private static final int PROMISES = 17;
    private static final Class<?>[] TESTS = {NewObjectTest.class, SeedAndTimeTest.class, KeysTest.class,
        LoginTest.class, RequestTest.class, LogoutTest.class, TextsTest.class, ViewTest.class, TermsTest.class};

    private final String document;
    private final List<Sentence> marks = new ArrayList<>();

    private DocumentTest(String document) {
        this.document = document;
        for (Class<?> tests : TESTS) {
            for (Method test : tests.getDeclaredMethods()) {
                if (test.isAnnotationPresent(Sentence.class)) {
                    marks.add(test.getAnnotation(Sentence.class));
                }
            }
        }
    }

    public static void main(String[] args) throws IOException {
        DocumentTest test = new DocumentTest(Files.readString(DOCUMENT));
        test.everyMarkStandsInTheDocument();
        test.everySentenceHasATest();
        Check.end("DocumentTest");
    }

    /** What stands under the heading that begins so. */
    private String section(String heading) {
        int from = document.indexOf("\n## " + heading);
        if (from < 0) {
            return "";
        }
        int text = document.indexOf('\n', from + 1);
        int to = document.indexOf("\n## ", text);
        return document.substring(text, to < 0 ? document.length() : to);
    }

    private String promise(int number) {
        return section("Promise " + number + ":");
    }

    private void everyMarkStandsInTheDocument() {
        for (Sentence mark : marks) {
            String places = section("What it is") + section("Terms") + promise(mark.promise());
            Check.due("\"" + mark.says() + "\" of promise " + mark.promise(),
                    places.contains(mark.says()) ? "is said" : "is not said", "is said");
        }
    }

    private void everySentenceHasATest() {
        for (String sentence : sentences(section("Terms"))) {
            dueTested("Terms", sentence, marks);
        }
        for (int number = 1; number <= PROMISES; number++) {
            int asked = number;
            Check.due("promise " + number, promise(number).isEmpty() ? "is not there" : "is there", "is there");
            for (String sentence : sentences(promise(number))) {
                dueTested("Promise " + number, sentence, marks.stream().filter(m -> m.promise() == asked).toList());
            }
        }
    }

    // The dots of 0 .. 7 end no sentence: an end has a letter, a digit or a bracket before it.
    private static List<String> sentences(String section) {
        List<String> found = new ArrayList<>();
        for (String sentence : withoutSignature(section).split("\n+|(?<=[^ .][.;]) ")) {
            if (!sentence.isBlank()) {
                found.add(sentence);
            }
        }
        return found;
    }

    private static String withoutSignature(String section) {
        return section.replaceFirst("^\\n+`[^`]*`: ", "");
    }

    private static void dueTested(String where, String sentence, List<Sentence> tests) {
        boolean tested = false;
        for (Sentence mark : tests) {
            tested |= sentence.contains(mark.says()) || mark.says().contains(sentence);
        }
        Check.due(where + ": \"" + sentence + "\"", tested ? "has a test" : "has no test", "has a test");
    }
}
