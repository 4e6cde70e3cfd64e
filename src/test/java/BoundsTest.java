import java.io.IOException;
import java.lang.reflect.InvocationTargetException;
import java.lang.reflect.Method;
import java.util.ArrayList;
import java.util.List;
import java.util.Map;
import java.util.TreeMap;

/** Each sentence of the document by a test of its own: every test names its sentence, and none may be left out. */
public final class BoundsTest {
    private static final Class<?>[] GROUPS = {TermBounds.class, BirdBounds.class, SecretBounds.class,
        ShareBounds.class, RebuildingBounds.class, TotalBounds.class, ProgramBounds.class, OutputBounds.class,
        UndoBounds.class};

    private static final Check check = Bounds.check;

    public static void main(String[] args) throws IOException {
        Map<Integer, List<String>> tested = new TreeMap<>();
        for (Class<?> group : GROUPS) {
            for (Method test : group.getDeclaredMethods()) {
                Sentence sentence = test.getAnnotation(Sentence.class);
                if (sentence != null) {
                    tested.computeIfAbsent(sentence.of(), key -> new ArrayList<>()).add(sentence.words());
                    check.begin(test.getName() + ", promise " + sentence.of() + " \"" + sentence.words() + "\"");
                    run(test);
                }
            }
        }
        check.begin("the document");
        compareWithDocument(tested);
        check.end();
    }

    private static void run(Method test) {
        try {
            test.invoke(null);
        } catch (InvocationTargetException e) {
            check.equal("the test", "ended", "threw " + e.getCause());
        } catch (IllegalAccessException e) {
            check.equal("the test", "called", "not to be called");
        }
    }

    private static void compareWithDocument(Map<Integer, List<String>> tested) throws IOException {
        Map<Integer, List<String>> sentences = Document.sentences();
        check.equal("the promises tested", sentences.keySet(), tested.keySet());
        sentences.forEach((promise, all) -> all.forEach(sentence -> {
            boolean named = tested.getOrDefault(promise, List.of()).stream().anyMatch(sentence::contains);
            check.equal("the test of promise " + promise + " \"" + sentence + "\"", true, named);
        }));
        tested.forEach((promise, all) -> all.forEach(words -> {
            boolean found = sentences.getOrDefault(promise, List.of()).stream().anyMatch(s -> s.contains(words));
            check.equal("the words of promise " + promise + " \"" + words + "\"", true, found);
        }));
    }
}
