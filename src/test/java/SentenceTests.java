import java.io.IOException;
import java.lang.reflect.InvocationTargetException;
import java.lang.reflect.Method;
import java.nio.charset.StandardCharsets;
import java.nio.file.Files;
import java.nio.file.Path;
import java.util.ArrayList;
import java.util.Comparator;
import java.util.List;

/**
 * Runs the tests that quote a sentence of the document. A quote that the document does not have is a fault, and so
 * are words of the document that no test quotes, from its first line to the section of what is not promised.
 */
public final class SentenceTests extends Checks {
    private static final Path DOCUMENT = Path.of("../shared/DOC.md");
    private static final Class<?>[] GROUPS = {
        OrdinaryDays.class, BoundariesOfTheList.class, BoundariesOfOffers.class, BoundariesOfTerms.class,
        BoundariesOfQuestions.class, BoundariesOfTexts.class, BoundariesOfUndo.class
    };

    public static void main(String[] args) throws IOException, IllegalAccessException {
        List<Method> tests = tests();
        for (Method test : tests) {
            run(test);
        }
        about = "quotes";
        quotesAreInTheDocument(tests);
        wordsOfTheDocumentAreQuoted(tests);
        finish(tests.size() + " sentences hold");
    }

    private static List<Method> tests() {
        List<Method> tests = new ArrayList<>();
        for (Class<?> group : GROUPS) {
            for (Method method : group.getDeclaredMethods()) {
                if (method.isAnnotationPresent(Sentence.class)) {
                    tests.add(method);
                }
            }
        }
        tests.sort(Comparator.comparing((Method test) -> test.getAnnotation(Sentence.class).promise())
                .thenComparing(Method::getName));
        return tests;
    }

    private static void run(Method test) throws IllegalAccessException {
        Sentence sentence = test.getAnnotation(Sentence.class);
        about = "promise " + sentence.promise() + ", " + test.getName() + " (\"" + sentence.says() + "\")";
        try {
            test.invoke(null);
        } catch (InvocationTargetException thrown) {
            check(false, "threw " + thrown.getCause());
        }
    }

    // ---- the document and its quotes

    private static void quotesAreInTheDocument(List<Method> tests) throws IOException {
        String document = plain(Files.readString(DOCUMENT, StandardCharsets.UTF_8));
        for (Method test : tests) {
            String says = plain(test.getAnnotation(Sentence.class).says());
            check(document.contains(says), "not in the document: " + says);
        }
    }

    /**
     * Headings, the code of the face and the signatures are left out: LanguageTests reads the face. A sentence of
     * a promise counts as quoted by a test of that promise only, since many of them say the same.
     */
    private static void wordsOfTheDocumentAreQuoted(List<Method> tests) throws IOException {
        int promise = 0;
        boolean isCode = false;
        for (String line : Files.readAllLines(DOCUMENT, StandardCharsets.UTF_8)) {
            if (line.equals("## Not promised")) {
                break;
            }
            if (line.startsWith("## Promise ")) {
                promise = Integer.parseInt(line.substring(11, line.indexOf(':')));
            }
            isCode = line.startsWith("```") ? !isCode : isCode;
            boolean isHeading = line.startsWith("#") || line.equals("Excuses, pupils, masters");
            if (!isCode && !isHeading && !line.startsWith("```")) {
                String says = plain(line.replaceFirst("^`[^`]*\\(.*?\\)`: ", ""));
                String rest = withoutQuotes(says, tests, promise);
                check(!rest.matches(".*\\w.*"), "no test of promise " + promise + " quotes: " + rest);
            }
        }
        due("promises", promise, 23);
    }

    /** A line, with spaces for what the tests of a promise quote; those of any promise for promise 0. */
    private static String withoutQuotes(String line, List<Method> tests, int promise) {
        StringBuilder rest = new StringBuilder(line);
        for (Method test : tests) {
            Sentence sentence = test.getAnnotation(Sentence.class);
            String says = plain(sentence.says());
            if (promise == 0 || sentence.promise() == promise) {
                for (int at = line.indexOf(says); at >= 0; at = line.indexOf(says, at + 1)) {
                    for (int i = at; i < at + says.length(); i++) {
                        rest.setCharAt(i, ' ');
                    }
                }
            }
        }
        return plain(rest.toString());
    }

    private static String plain(String text) {
        return text.replaceAll("\\s+", " ").trim();
    }
}
