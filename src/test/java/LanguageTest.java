import java.io.IOException;
import java.lang.reflect.Constructor;
import java.lang.reflect.Field;
import java.lang.reflect.Method;
import java.lang.reflect.Modifier;
import java.nio.file.Files;
import java.nio.file.Path;
import java.util.ArrayList;
import java.util.List;
import java.util.Set;
import java.util.TreeSet;
import java.util.regex.Matcher;
import java.util.regex.Pattern;

/** What can be counted or looked up of the rules of LANGUAGE.md, in the program's text and in its classes. */
public final class LanguageTest {
    private static final Path PROGRAM = Path.of("src/main/java/FoldedProof.java");
    private static final Set<String> LIBRARY = Set.of("String", "Math", "IllegalArgumentException");
    private static final Set<String> NOT_THE_LANGUAGE = Set.of("package", "import", "finally", "synchronized", "assert",
        "try", "catch", "protected", "volatile", "native", "transient", "var", "throw");
    private static final Set<Class<?>> CONSTANTS = Set.of(int.class, long.class, boolean.class, char.class,
        String.class, int[].class, long[].class, char[].class, byte[].class);
    private static final Due DUE = new Due();

    private LanguageTest() {
    }

    public static void main(String[] args) throws IOException {
        List<Class<?>> classes = new ArrayList<>(List.of(FoldedProof.class.getDeclaredClasses()));
        classes.add(FoldedProof.class);
        String text = Files.readString(PROGRAM);
        String code = text.replaceAll("(?s)/\\*.*?\\*/", "").replaceAll("//.*", "");
        classesAreFewAndSmall(classes);
        staticFieldsAreConstants(classes);
        onlyTheFaceThrows(code);
        wordsAreOfTheLanguage(classes, code);
        methodsAreShort(code);
        DUE.end();
    }

    private static void classesAreFewAndSmall(List<Class<?>> classes) {
        DUE.sentence("Rules 2 and 11");
        DUE.yes(classes.size() + " classes are at most 12", classes.size() <= 12);
        for (Class<?> each : classes) {
            DUE.yes(each + " is static", each == FoldedProof.class || Modifier.isStatic(each.getModifiers()));
            DUE.is(each + " has classes inside", each.getDeclaredClasses().length, each == FoldedProof.class ? 11 : 0);
            int fields = 0;
            for (Field field : each.getDeclaredFields()) {
                fields += Modifier.isStatic(field.getModifiers()) ? 0 : 1;
            }
            DUE.yes(each + " has at most 20 fields", fields <= 20);
            for (Method method : each.getDeclaredMethods()) {
                DUE.yes(method + " takes at most 7", method.getParameterCount() <= 7);
            }
            for (Constructor<?> constructor : each.getDeclaredConstructors()) {
                DUE.yes(constructor + " takes at most 7", constructor.getParameterCount() <= 7);
            }
        }
    }

    private static void staticFieldsAreConstants(List<Class<?>> classes) {
        DUE.sentence("Rule 5");
        for (Class<?> each : classes) {
            for (Field field : each.getDeclaredFields()) {
                if (Modifier.isStatic(field.getModifiers())) {
                    DUE.yes(field + " is final", Modifier.isFinal(field.getModifiers()));
                    DUE.yes(field + " is of a constant's type", CONSTANTS.contains(field.getType()));
                }
            }
        }
    }

    /** The six calls that throw, each in its own body: two for shape. */
    private static void onlyTheFaceThrows(String code) {
        DUE.sentence("Rule 6");
        Matcher thrown = Pattern.compile("throw new IllegalArgumentException\\(\"[^\"]*\"\\);").matcher(code);
        DUE.is("throws of a written text", thrown.results().count(), 7);
        DUE.is("throws", Pattern.compile("\\bthrow\\b").matcher(code).results().count(), 7);
        DUE.no("one stands in a class inside", code.lastIndexOf("throw new") > code.indexOf("private static final class"));
    }

    private static void wordsAreOfTheLanguage(List<Class<?>> classes, String code) {
        DUE.sentence("Rules 2 to 4, 6, 10 and 13");
        DUE.no("a lambda or a method reference", code.contains("->") || code.contains("::"));
        DUE.no("a text joined by +", Pattern.compile("\"\\s*\\+|\\+\\s*\"").matcher(code).find());
        DUE.no("an annotation", code.contains("@"));
        String bare = code.replaceAll("\"[^\"]*\"", "\"\"").replaceAll("throw new", "");
        Set<String> names = new TreeSet<>();
        for (Class<?> each : classes) {
            names.add(each.getSimpleName());
        }
        Matcher word = Pattern.compile("\\b[A-Za-z_]\\w*").matcher(bare);
        while (word.find()) {
            String found = word.group();
            DUE.no("the word " + found + " is used", NOT_THE_LANGUAGE.contains(found));
            if (Character.isUpperCase(found.charAt(0)) && !found.equals(found.toUpperCase())) {
                DUE.yes(found + " is known", names.contains(found) || LIBRARY.contains(found));
            }
        }
    }

    /** A method's text begins and ends at the indent of its class's members. */
    private static void methodsAreShort(String code) {
        DUE.sentence("Rule 11");
        String[] lines = code.split("\n");
        for (int from = 0; from < lines.length; from++) {
            Matcher head = Pattern.compile("( {4}| {8})\\w.*\\) (throws \\w+ )?\\{").matcher(lines[from]);
            if (head.matches()) {
                int to = from;
                while (!lines[to].equals(head.group(1) + "}")) {
                    to++;
                }
                DUE.yes(lines[from].strip() + " has " + (to - from + 1) + " lines", to - from < 60);
            }
        }
    }
}
