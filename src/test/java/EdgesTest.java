import java.io.IOException;
import java.lang.reflect.InvocationTargetException;
import java.lang.reflect.Method;
import java.util.ArrayList;
import java.util.Comparator;
import java.util.List;

/**
 * Runs the tests of single sentences, and looks in the document whether each sentence has one: those of the terms,
 * and of each promise what it does, returns and throws, and the arguments that have a range.
 */
public final class EdgesTest {
    private static final List<Class<?>> TESTS = List.of(QuestionEdges.class, PacketEdges.class, TeamEdges.class,
        MatchEdges.class, ProtestEdges.class, StandingEdges.class);

    public static void main(String[] args) throws IOException, IllegalAccessException {
        List<Method> tests = tests();
        for (Method test : tests) {
            run(test);
        }
        if (Document.isThere()) {
            Document document = new Document();
            quoteTheDocument(document, tests);
            coverTheDocument(document, tests);
        } else {
            System.out.println("the document is not there, so that no sentence is looked up in it");
        }
        System.out.println(tests.size() + " sentences or parts of them");
        Checks.finish("EdgesTest");
    }

    private static List<Method> tests() {
        List<Method> tests = new ArrayList<>();
        for (Class<?> held : TESTS) {
            for (Method method : held.getDeclaredMethods()) {
                if (method.isAnnotationPresent(Promise.class)) {
                    tests.add(method);
                }
            }
        }
        tests.sort(Comparator.comparing((Method test) -> told(test).value()).thenComparing(Method::getName));
        return tests;
    }

    private static Promise told(Method test) {
        return test.getAnnotation(Promise.class);
    }

    private static void run(Method test) throws IllegalAccessException {
        Edges.begin(told(test));
        test.setAccessible(true);
        try {
            test.invoke(null);
        } catch (InvocationTargetException e) {
            Checks.tell(Edges.about() + test.getName() + " broke off by " + e.getCause());
        }
    }

    private static void quoteTheDocument(Document document, List<Method> tests) {
        for (Method test : tests) {
            boolean isQuoted = document.has(told(test).value(), told(test).says());
            Checks.holds(test.getName() + " quotes promise " + told(test).value() + " or the terms", isQuoted);
        }
    }

    private static void coverTheDocument(Document document, List<Method> tests) {
        for (String sentence : document.terms()) {
            Checks.holds("a test of the terms: " + sentence, isTested(sentence, tests, 0));
        }
        for (int promise = 1; promise <= Document.PROMISES; promise++) {
            for (String sentence : document.promise(promise)) {
                boolean isDue = !sentence.matches("[a-zA-Z]+: .*") || sentence.matches(".*(\\d|'| to ).*");
                boolean isTested = !isDue || isTested(sentence, tests, promise);
                Checks.holds("a test of promise " + promise + ": " + sentence, isTested);
            }
            if (document.countThrows(promise) > 1) {
                Checks.holds("promise " + promise + ": " + Edges.ORDER, isTested(Edges.ORDER, tests, promise));
            }
        }
    }

    private static boolean isTested(String sentence, List<Method> tests, int promise) {
        for (Method test : tests) {
            boolean isOfPromise = promise == 0 || told(test).value() == promise;
            if (isOfPromise && sentence.contains(told(test).says())) {
                return true;
            }
        }
        return false;
    }
}
