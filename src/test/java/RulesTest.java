import java.io.IOException;
import java.lang.reflect.Constructor;
import java.lang.reflect.Field;
import java.lang.reflect.Method;
import java.lang.reflect.Modifier;
import java.nio.file.Files;
import java.nio.file.Path;
import java.util.ArrayList;
import java.util.List;
import java.util.Set;
import java.util.TreeSet;

/** What of ../shared/LANGUAGE.md can be seen by the classes and the words of the program. */
public final class RulesTest {
    private static final Path PROGRAM = Path.of("src", "main", "java", "FeatherShares.java");
    private static final int MOST_CLASSES = 12;
    private static final int MOST_FIELDS = 20;
    private static final int MOST_PARAMETERS = 7;
    private static final int MOST_LINES = 60;

    /** Rules 2, 4, 6, 7, 8 and 13: words that the program does without. */
    private static final String[] ABSENT = {"->", "::", "try", "catch", "finally", "synchronized", "assert",
        "instanceof", "package", "Object", "System.out", "System.in", "Exact(", "hashCode", "toString", "equals(",
        "getMessage", "interface", "extends", "Random", "nanoTime", "currentTimeMillis", "Thread", "double[", "float["};

    private static final Check check = new Check("RulesTest");

    public static void main(String[] args) throws IOException {
        List<Class<?>> classes = new ArrayList<>(List.of(FeatherShares.class));
        for (Class<?> inside : FeatherShares.class.getDeclaredClasses()) {
            classes.add(inside);
            check.equal("rule 1: " + inside + " is static", true, Modifier.isStatic(inside.getModifiers()));
            check.equal("rule 1: " + inside + " is hidden", 0,
                    inside.getModifiers() & (Modifier.PUBLIC | Modifier.PROTECTED));
        }
        check.equal("rule 11: at most 12 classes, with " + classes.size(), true, classes.size() <= MOST_CLASSES);
        Set<String> face = face();
        for (Class<?> one : classes) {
            fields(one);
            methods(one, face);
            constructors(one);
        }
        words();
        check.end();
    }

    private static Set<String> face() {
        Set<String> face = new TreeSet<>();
        for (Method method : FeatherShares.class.getDeclaredMethods()) {
            if (Modifier.isPublic(method.getModifiers())) {
                face.add(method.getName());
            }
        }
        return face;
    }

    private static void fields(Class<?> one) {
        int fields = 0;
        for (Field field : one.getDeclaredFields()) {
            if (Modifier.isStatic(field.getModifiers())) {
                check.equal("rule 5: " + field + " is final", true, Modifier.isFinal(field.getModifiers()));
            } else {
                fields++;
            }
        }
        check.equal("rule 11: at most 20 fields in " + one + ", with " + fields, true, fields <= MOST_FIELDS);
    }

    private static void methods(Class<?> one, Set<String> face) {
        for (Method method : one.getDeclaredMethods()) {
            if (Modifier.isPrivate(method.getModifiers())) {
                check.equal("rule 1: " + method + " bears a name of the face", false, face.contains(method.getName()));
            }
            check.equal("rule 11: at most 7 parameters of " + method, true,
                    method.getParameterCount() <= MOST_PARAMETERS);
        }
    }

    /** A constructor that takes no object can't be handed a part of one that is being made. */
    private static void constructors(Class<?> one) {
        for (Constructor<?> constructor : one.getDeclaredConstructors()) {
            for (Class<?> type : constructor.getParameterTypes()) {
                check.equal("rule 12: " + constructor + " takes no object", true,
                        type.isPrimitive() || type == String.class);
            }
        }
    }

    private static void words() throws IOException {
        List<String> lines = Files.readAllLines(PROGRAM);
        int length = 0;
        for (String line : lines) {
            String code = line.replaceFirst("^\\s*(/\\*\\*|\\*|//).*", "").replaceAll("\"[^\"]*\"", "\"\"");
            for (String word : ABSENT) {
                check.equal("\"" + word + "\" in: " + line, false, has(code, word));
            }
            check.equal("rule 4: the library in: " + line, false,
                    code.startsWith("import ") && !code.equals("import java.util.NoSuchElementException;"));
            length = line.isBlank() ? 0 : length + 1;
            check.equal("rule 11: short methods, at: " + line, true, length <= MOST_LINES);
        }
    }

    /** A word of letters alone is found only as a whole word. */
    private static boolean has(String code, String word) {
        return word.matches("[a-zA-Z]+") ? code.matches(".*\\b" + word + "\\b.*") : code.contains(word);
    }
}
