import java.lang.reflect.InvocationTargetException;
import java.lang.reflect.Method;
import java.lang.reflect.Modifier;
import java.util.ArrayList;
import java.util.Arrays;
import java.util.Comparator;
import java.util.List;

/** Runs the tests that are each for one sentence, every one on a new object. */
final class Sentences {
    static final List<Class<?>> TESTS = List.of(
            TermsSentencesTest.class, Promises1To5SentencesTest.class, Promises6To14SentencesTest.class);

    private Sentences() {
    }

    static void runAll(Class<?> tests) {
        Check.due("listed for QuotesTest", TESTS.contains(tests), true);
        List<Method> all = of(tests);
        all.forEach(Sentences::run);
        Check.about(tests.getSimpleName());
        noTestIsLeftOut(tests);
        System.out.println(all.size() + " tests of sentences");
        Check.end();
    }

    static List<Method> of(Class<?> tests) {
        List<Method> all = new ArrayList<>();
        for (Method m : tests.getDeclaredMethods()) {
            if (m.isAnnotationPresent(Sentence.class)) {
                all.add(m);
            }
        }
        all.sort(Comparator.comparing(Method::getName));
        return all;
    }

    private static void run(Method test) {
        Sentence sentence = test.getAnnotation(Sentence.class);
        String users = sentence.promises().isEmpty() ? "" : " (promise " + sentence.promises() + ")";
        Check.about(test.getName() + ", " + sentence.in() + users + ", '" + sentence.says() + "'");
        try {
            test.invoke(null, new LoadStoreRows());
        } catch (InvocationTargetException e) {
            Check.due("the test", "threw " + e.getCause(), "its answers");
        } catch (IllegalAccessException e) {
            throw new AssertionError(e);
        }
    }

    /** A test that names no sentence would never run. */
    private static void noTestIsLeftOut(Class<?> tests) {
        Arrays.stream(tests.getDeclaredMethods())
                .filter(m -> !Modifier.isPrivate(m.getModifiers()) && !m.getName().equals("main"))
                .forEach(m -> Check.due(m.getName() + " names a sentence",
                        m.isAnnotationPresent(Sentence.class), true));
    }
}
