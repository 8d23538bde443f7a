import java.io.IOException;
import java.lang.reflect.InvocationTargetException;
import java.lang.reflect.Method;
import java.nio.file.Files;
import java.nio.file.Path;

/** Runs the tests of a class that each stand for a sentence, and looks the sentence up in the document. */
final class Sentences {
    private static final Path DOCUMENT = Path.of("..", "shared", "DOC.md");

    private Sentences() {
    }

    static void test(Class<?> tests) {
        String document = documentInOneLine();
        int found = 0;
        for (Method method : tests.getDeclaredMethods()) {
            Sentence sentence = method.getAnnotation(Sentence.class);
            if (sentence != null) {
                found++;
                // A quotation that the document no longer has means that the test must be read again.
                if (!document.contains(sentence.value())) {
                    Check.fail(method.getName() + " quotes what the document does not say: " + sentence.value());
                }
                run(method);
            }
        }
        if (found == 0) {
            Check.fail(tests.getName() + " has no test");
        }
        Check.end();
    }

    private static void run(Method method) {
        Check.begin(method.getName());
        try {
            method.invoke(null);
        } catch (InvocationTargetException e) {
            Check.fail("ended by " + e.getCause());
        } catch (IllegalAccessException e) {
            Check.fail("can't be called");
        }
    }

    private static String documentInOneLine() {
        try {
            return Files.readString(DOCUMENT).replaceAll("\\s+", " ");
        } catch (IOException e) {
            Check.fail("no document at " + DOCUMENT);
            return "";
        }
    }
}
