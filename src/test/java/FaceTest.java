import java.lang.reflect.Constructor;
import java.lang.reflect.Field;
import java.lang.reflect.Method;
import java.lang.reflect.Modifier;
import java.util.StringJoiner;
import java.util.TreeSet;

/** The public face: the class, its constructor and its methods, and nothing else that is not private. */
public final class FaceTest {
    private static final String[] FACE = {
        "int addBird(int) IllegalArgumentException, IllegalStateException",
        "int move(int, int) IndexOutOfBoundsException, IllegalArgumentException",
        "int split(int, int, int) IllegalArgumentException, IllegalStateException",
        "int lose(int, int) IndexOutOfBoundsException, NoSuchElementException, IllegalStateException",
        "int spoil(int, int, int) IndexOutOfBoundsException, NoSuchElementException, IllegalArgumentException, "
            + "IllegalStateException",
        "int issue(int, int) IndexOutOfBoundsException, NoSuchElementException, IllegalStateException, "
            + "UnsupportedOperationException",
        "int refresh(int, int) NoSuchElementException, IllegalArgumentException",
        "int forget(int) NoSuchElementException",
        "int birdCount() ",
        "int nestOf(int) IndexOutOfBoundsException",
        "int birdsIn(int) IllegalArgumentException",
        "int sharesOf(int) IndexOutOfBoundsException",
        "int birdAtRank(int) NoSuchElementException",
        "int secretCount() ",
        "boolean exists(int) ",
        "int secretAt(int) IndexOutOfBoundsException",
        "int threshold(int) NoSuchElementException",
        "boolean holds(int, int) IndexOutOfBoundsException, NoSuchElementException",
        "int share(int, int) IndexOutOfBoundsException, NoSuchElementException, IllegalStateException",
        "int holders(int) NoSuchElementException",
        "int spareShares(int) NoSuchElementException",
        "boolean canNestRebuild(int, int) IllegalArgumentException, NoSuchElementException",
        "int rebuild(int) NoSuchElementException, IllegalStateException",
        "int rebuildByElimination(int) NoSuchElementException, IllegalStateException",
        "int unfitShares(int) NoSuchElementException, IllegalStateException",
        "int leastUnfitShares(int) NoSuchElementException, IllegalStateException",
        "int possibleValues(int, int) NoSuchElementException, IllegalArgumentException",
        "int possibleValuesByTrying(int, int) NoSuchElementException, IllegalArgumentException",
        "int inverse(int) IllegalArgumentException",
        "int shareTotal() ",
        "long lostTotal() ",
        "double meanShares() ArithmeticException",
        "float rebuildableShare() ArithmeticException",
        "boolean isConsistent() ",
        "int append(char) IllegalStateException",
        "int run() IllegalArgumentException, UnsupportedOperationException",
        "int errorPosition() NoSuchElementException",
        "int failedCommand() NoSuchElementException",
        "int writeSecret(int) NoSuchElementException",
        "int writeNests() ",
        "char outputAt(int) IndexOutOfBoundsException",
        "int undo() IllegalStateException",
        "void save() ",
        "void restore() IllegalStateException"};

    private static final Check check = new Check("FaceTest");

    public static void main(String[] args) {
        TreeSet<String> wanted = new TreeSet<>(java.util.List.of(FACE));
        TreeSet<String> found = new TreeSet<>();
        for (Method method : FeatherShares.class.getDeclaredMethods()) {
            if (!Modifier.isPrivate(method.getModifiers()) && !method.isSynthetic()) {
                found.add(described(method));
                check.due(method + " is public alone", Modifier.PUBLIC, () -> method.getModifiers());
            }
        }
        check.due("the methods", wanted, () -> found);
        for (Field field : FeatherShares.class.getDeclaredFields()) {
            check.due(field + " is private", true, () -> Modifier.isPrivate(field.getModifiers()));
        }
        Constructor<?>[] constructors = FeatherShares.class.getDeclaredConstructors();
        check.due("the constructors", 1, () -> constructors.length);
        check.due("the constructor", "public FeatherShares()", () -> constructors[0].toString());
        check.due("the class", Modifier.PUBLIC | Modifier.FINAL, () -> FeatherShares.class.getModifiers());
        check.end();
    }

    private static String described(Method method) {
        StringJoiner parameters = new StringJoiner(", ");
        for (Class<?> type : method.getParameterTypes()) {
            parameters.add(type.getSimpleName());
        }
        StringJoiner exceptions = new StringJoiner(", ");
        for (Class<?> type : method.getExceptionTypes()) {
            exceptions.add(type.getSimpleName());
        }
        return method.getReturnType().getSimpleName() + " " + method.getName() + "(" + parameters + ") " + exceptions;
    }
}
