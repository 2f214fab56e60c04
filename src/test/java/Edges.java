import java.lang.reflect.Method;
import java.nio.file.Files;
import java.nio.file.Path;
import java.util.Arrays;
import java.util.Comparator;
import java.util.List;
import java.util.stream.Collectors;

/** Runs each test of a class that is for words of the document, and looks whether the document says them there. */
final class Edges {
    private final Check check;
    private final String document;

    /** The document's path is the second argument; without it the words are not looked up. */
    Edges(Check check, String[] args) throws Exception {
        this.check = check;
        document = args.length > 1 ? flat(Files.readString(Path.of(args[1]))) : null;
    }

    void run(Class<?> tests) throws Exception {
        for (Method test : testsOf(tests)) {
            Says says = test.getAnnotation(Says.class);
            check.about(test.getName() + " (" + Arrays.toString(says.promise()) + " " + says.text() + ")");
            lookUp(says);
            test.setAccessible(true);
            test.invoke(null);
        }
        check.end();
    }

    static List<Method> testsOf(Class<?> tests) {
        return Arrays.stream(tests.getDeclaredMethods())
            .filter(method -> method.isAnnotationPresent(Says.class))
            .sorted(Comparator.comparing(Method::getName))
            .collect(Collectors.toList());
    }

    private void lookUp(Says says) {
        if (document == null) {
            return;
        }
        int promises = document.indexOf("## Promise 1:");
        check.due("the document has promises", promises > 0 ? 1 : 0, 1);
        boolean said = document.indexOf(flat(says.text())) >= 0
            && document.indexOf(flat(says.text())) < promises;
        for (int promise : says.promise()) {
            said |= sectionOf(promise).contains(flat(says.text()));
        }
        check.due("the document says it", said ? 1 : 0, 1);
    }

    private String sectionOf(int promise) {
        int from = document.indexOf("## Promise " + promise + ":");
        int to = document.indexOf("## ", from + 3);
        check.due("the document has promise " + promise, from >= 0 && to > from ? 1 : 0, 1);
        return from >= 0 && to > from ? document.substring(from, to) : "";
    }

    private static String flat(String text) {
        return text.replaceAll("\\s+", " ");
    }
}
