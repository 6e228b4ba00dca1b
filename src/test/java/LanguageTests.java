import java.io.IOException;
import java.lang.reflect.Constructor;
import java.lang.reflect.Field;
import java.lang.reflect.Method;
import java.lang.reflect.Modifier;
import java.nio.charset.StandardCharsets;
import java.nio.file.Files;
import java.nio.file.Path;
import java.util.ArrayList;
import java.util.List;
import java.util.Set;
import java.util.TreeSet;
import java.util.regex.Matcher;
import java.util.regex.Pattern;

/** The public face of the document, and the rules of LANGUAGE.md that reflection or a look at the text can check. */
public final class LanguageTests {
    private static final Path PROGRAM = Path.of("src/main/java/ExcuseTariffs.java");
    private static final Path DOCUMENT = Path.of("../shared/DOC.md");

    private static final String[] FORBIDDEN = {
        "throw", "throws", "try", "catch", "finally", "synchronized", "assert", "volatile", "native", "import",
        "package", "yield", "var", "Object", "Exception", "System.out", "->", "::", "new Thread", "Random",
        "Exact", "toString", "hashCode", "@"
    };

    private static int wrong = 0;

    /** The public face as the document has it: each method as name(type,type), each constant as NAME = value. */
    private static final Set<String> METHODS = new TreeSet<>();
    private static final Set<String> CONSTANTS = new TreeSet<>();

    public static void main(String[] args) throws IOException, IllegalAccessException {
        readTheFace();
        face();
        constants();
        fields(ExcuseTariffs.class);
        namesOfMethods(ExcuseTariffs.class);
        for (Class<?> inside : ExcuseTariffs.class.getDeclaredClasses()) {
            check(Modifier.isStatic(inside.getModifiers()), "not static: " + inside);
            check(!Modifier.isPublic(inside.getModifiers()) && !Modifier.isProtected(inside.getModifiers()),
                    "to be seen from outside: " + inside);
            fields(inside);
            namesOfMethods(inside);
        }
        check(ExcuseTariffs.class.getDeclaredClasses().length <= 12, "too many classes");
        text(Files.readString(PROGRAM, StandardCharsets.ISO_8859_1));
        System.out.println(wrong == 0 ? "the rules are kept" : wrong + " rules are not kept");
        if (wrong != 0) {
            System.exit(1);
        }
    }

    private static void check(boolean holds, String what) {
        if (!holds) {
            wrong++;
            System.out.println(what);
        }
    }

    private static void readTheFace() throws IOException {
        String document = Files.readString(DOCUMENT, StandardCharsets.UTF_8);
        String face = document.substring(document.indexOf("```java"), document.indexOf("```\n\n## Terms"));
        check(face.contains("public final class ExcuseTariffs {"), "the face of another class");
        Matcher constant = Pattern.compile("([A-Z_]+ = -?\\d+)[,;]").matcher(face);
        while (constant.find()) {
            CONSTANTS.add(constant.group(1));
        }
        Matcher method = Pattern.compile("public int (\\w+)\\((.*?)\\);").matcher(face);
        while (method.find()) {
            METHODS.add(method.group(1) + "(" + method.group(2).replaceAll(" \\w+(,) | \\w+$", "$1") + ")");
        }
        check(METHODS.size() == 22 && CONSTANTS.size() == 11, "the face reads " + METHODS + " " + CONSTANTS);
    }

    private static void face() {
        int modifiers = ExcuseTariffs.class.getModifiers();
        check(Modifier.isPublic(modifiers) && Modifier.isFinal(modifiers), "the class is not public and final");
        check(ExcuseTariffs.class.getSuperclass() == Object.class && ExcuseTariffs.class.getInterfaces().length == 0,
                "the class is one of another kind");
        Set<String> seen = new TreeSet<>();
        for (Method method : ExcuseTariffs.class.getDeclaredMethods()) {
            if (Modifier.isPrivate(method.getModifiers()) || method.isSynthetic()) {
                continue;
            }
            check(method.getReturnType() == int.class, "does not answer an int: " + method);
            check(method.getModifiers() == Modifier.PUBLIC, "not simply public: " + method);
            List<String> parameters = new ArrayList<>();
            for (Class<?> parameter : method.getParameterTypes()) {
                parameters.add(parameter.getName());
            }
            seen.add(method.getName() + "(" + String.join(",", parameters) + ")");
        }
        check(seen.equals(METHODS), "the public methods are " + seen);
        Constructor<?>[] constructors = ExcuseTariffs.class.getDeclaredConstructors();
        check(constructors.length == 1 && constructors[0].getParameterCount() == 0
                && Modifier.isPublic(constructors[0].getModifiers()), "the constructors");
    }

    private static void constants() throws IllegalAccessException {
        Set<String> seen = new TreeSet<>();
        for (Field field : ExcuseTariffs.class.getDeclaredFields()) {
            if (!Modifier.isPrivate(field.getModifiers())) {
                check(field.getModifiers() == (Modifier.PUBLIC | Modifier.STATIC | Modifier.FINAL)
                        && field.getType() == int.class, "no constant: " + field);
                seen.add(field.getName() + " = " + field.get(null));
            }
        }
        check(seen.equals(CONSTANTS), "the constants are " + seen);
    }

    private static void fields(Class<?> type) {
        int own = 0;
        for (Field field : type.getDeclaredFields()) {
            if (Modifier.isStatic(field.getModifiers())) {
                check(Modifier.isFinal(field.getModifiers()), "static, and not final: " + field);
            } else {
                own++;
            }
        }
        check(own <= 20, "too many fields: " + type);
    }

    private static void namesOfMethods(Class<?> type) {
        Set<String> publicNames = new TreeSet<>();
        for (String method : METHODS) {
            publicNames.add(method.substring(0, method.indexOf('(')));
        }
        for (Method method : type.getDeclaredMethods()) {
            boolean ofTheFace = type == ExcuseTariffs.class && Modifier.isPublic(method.getModifiers());
            check(ofTheFace || !publicNames.contains(method.getName()), "the name of a public method: " + method);
            check(method.getParameterCount() <= 7, "too many parameters: " + method);
        }
    }

    private static void text(String program) {
        for (int i = 0; i < program.length(); i++) {
            char sign = program.charAt(i);
            check(sign == '\n' || sign >= 32 && sign < 127, "sign " + (int) sign + " at " + i);
        }
        String code = program.replaceAll("(?s)/\\*.*?\\*/", " ").replaceAll("//[^\n]*", " ");
        for (String word : FORBIDDEN) {
            String edge = Character.isLetter(word.charAt(0)) ? "\\b" : "";
            Matcher matcher = Pattern.compile(edge + Pattern.quote(word) + edge).matcher(code);
            check(!matcher.find(), "the text has " + word);
        }
        check(!code.contains("\""), "the text has a String");
        check(!Pattern.compile("while\\s*\\(\\s*true|for\\s*\\(\\s*;").matcher(code).find(), "a loop without an end");
        lengthsOfMethods(code);
    }

    /** A method begins at a line that ends with a brace and has parameters; it ends where its indent comes back. */
    private static void lengthsOfMethods(String code) {
        String[] lines = code.split("\n");
        Pattern head = Pattern.compile("^(    |        )(?!for|if|while|switch|else)\\w[\\w\\[\\] ]*\\(.*\\) \\{$");
        for (int i = 0; i < lines.length; i++) {
            Matcher matcher = head.matcher(lines[i]);
            if (matcher.find()) {
                int end = i;
                while (end < lines.length - 1 && !lines[end].equals(matcher.group(1) + "}")) {
                    end++;
                }
                check(end - i < 60, "a long method: " + lines[i]);
            }
        }
    }
}
