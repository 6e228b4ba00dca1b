import java.io.IOException;
import java.lang.reflect.InvocationTargetException;
import java.lang.reflect.Method;
import java.nio.charset.StandardCharsets;
import java.nio.file.Files;
import java.nio.file.Path;
import java.util.ArrayList;
import java.util.Comparator;
import java.util.List;

/**
 * Runs a test of its own for each sentence of the document that names a boundary case. Every test quotes its
 * sentence; a quote that the document does not have, and a part of a promise that no test quotes, are faults.
 */
public final class BoundaryTests extends Checks {
    private static final Path DOCUMENT = Path.of("../shared/DOC.md");
    private static final Class<?>[] GROUPS = {
        BoundariesOfTheList.class, BoundariesOfOffers.class, BoundariesOfTerms.class, BoundariesOfQuestions.class,
        BoundariesOfTexts.class, BoundariesOfUndo.class
    };

    public static void main(String[] args) throws IOException, IllegalAccessException {
        List<Method> tests = tests();
        for (Method test : tests) {
            run(test);
        }
        String document = Files.readString(DOCUMENT, StandardCharsets.UTF_8);
        about = "quotes";
        for (Method test : tests) {
            String says = test.getAnnotation(Sentence.class).says();
            check(plain(document).contains(plain(says)), "not in the document: " + says);
        }
        for (int promise = 1; promise <= 23; promise++) {
            check(isQuoted(tests, promise, ""), "no test of promise " + promise);
            for (String part : partsOf(document, promise)) {
                check(isQuoted(tests, promise, part), "no test of promise " + promise + " quotes: " + part);
            }
        }
        finish(tests.size() + " boundary cases hold");
    }

    private static List<Method> tests() {
        List<Method> tests = new ArrayList<>();
        for (Class<?> group : GROUPS) {
            for (Method method : group.getDeclaredMethods()) {
                if (method.isAnnotationPresent(Sentence.class)) {
                    tests.add(method);
                }
            }
        }
        tests.sort(Comparator.comparing((Method test) -> test.getAnnotation(Sentence.class).promise())
                .thenComparing(Method::getName));
        return tests;
    }

    private static void run(Method test) throws IllegalAccessException {
        Sentence sentence = test.getAnnotation(Sentence.class);
        about = "promise " + sentence.promise() + ", " + test.getName() + " (\"" + sentence.says() + "\")";
        try {
            test.invoke(null);
        } catch (InvocationTargetException thrown) {
            check(false, "threw " + thrown.getCause());
        }
    }

    private static String plain(String text) {
        return text.replaceAll("\\s+", " ").trim();
    }

    private static boolean isQuoted(List<Method> tests, int promise, String part) {
        for (Method test : tests) {
            Sentence sentence = test.getAnnotation(Sentence.class);
            if (sentence.promise() == promise && plain(sentence.says()).contains(part)) {
                return true;
            }
        }
        return false;
    }

    /** The ranges of the parameters of a promise, and what it says behind each semicolon of its errors. */
    private static List<String> partsOf(String document, int promise) {
        List<String> parts = new ArrayList<>();
        int begin = document.indexOf("## Promise " + promise + ":");
        int end = document.indexOf("\n## ", begin + 1);
        for (String line : document.substring(begin, end).split("\n")) {
            if (line.startsWith("- ")) {
                parts.add(plain(line.substring(2)));
            } else if (line.startsWith("Returns ")) {
                for (String part : plain(line).replaceAll("\\.$", "").split("; ")) {
                    parts.add(part);
                }
            }
        }
        return parts;
    }
}
