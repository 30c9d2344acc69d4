import java.io.IOException;
import java.lang.reflect.Method;
import java.util.ArrayList;
import java.util.Arrays;
import java.util.Comparator;
import java.util.List;

/**
 * Runs the tests of single sentences of the document. Each of them names its sentence, which must stand in
 * the document as it is; and each sentence of the document's terms and promises must be named by a test.
 */
public final class DocumentTest {
    private static final Class<?>[] CASES = {FileCases.class, DayCases.class, OrderCases.class, ActionCases.class,
        CallCases.class, TextCases.class, LookCases.class, ForesightCases.class};

    private DocumentTest() {
    }

    public static void main(String[] args) throws IOException, ReflectiveOperationException {
        Check check = new Check();
        List<Says> said = new ArrayList<>();
        for (Class<?> cases : CASES) {
            for (Method test : testsOf(cases)) {
                said.add(test.getAnnotation(Says.class));
                runTest(check, test);
            }
        }
        check.begin("the document");
        Document document = new Document();
        for (Says one : said) {
            check.holds("it says under " + one.in() + ": " + one.text(),
                document.under(one.in()).stream().anyMatch(sentence -> sentence.contains(one.text())));
        }
        for (String heading : document.headings()) {
            for (String sentence : document.under(heading)) {
                check.holds("there is a test for: " + heading + ": " + sentence,
                    said.stream().anyMatch(one -> one.in().equals(heading) && sentence.contains(one.text())));
            }
        }
        System.out.println(said.size() + " tests of single sentences");
        check.end();
    }

    private static List<Method> testsOf(Class<?> cases) {
        Method[] tests = Arrays.stream(cases.getDeclaredMethods())
            .filter(method -> method.isAnnotationPresent(Says.class)).toArray(Method[]::new);
        Arrays.sort(tests, Comparator.comparing(Method::getName));
        return List.of(tests);
    }

    private static void runTest(Check check, Method test) throws ReflectiveOperationException {
        check.begin(test.getDeclaringClass().getSimpleName() + "." + test.getName());
        int before = check.compared();
        test.invoke(null, check);
        check.holds("it compares answers", check.compared() > before);
    }
}
