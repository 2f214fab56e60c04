import java.io.File;
import java.lang.reflect.Method;
import java.lang.reflect.Modifier;
import java.nio.file.Files;
import java.nio.file.Path;
import java.util.regex.Matcher;
import java.util.regex.Pattern;

/** What README.md tells of the class: its example's answers, a line for each call and each test. */
public final class ReadmeTest {
    private static final Pattern TEXT = Pattern.compile("String text = \"([^\"]*)\";");
    private static final Pattern CALL = Pattern.compile("x\\.(\\w+\\(.*\\)); +// (-?\\d+)");
    private static final Check CHECK = new Check();

    public static void main(String[] args) throws Exception {
        CHECK.due("paths of the class, the document and README.md", args.length, 3);
        String page = Files.readString(Path.of(args[2]));
        example(page.substring(page.indexOf("```java"), page.lastIndexOf("```")));
        for (Method method : TwoTowns.class.getDeclaredMethods()) {
            if (Modifier.isPublic(method.getModifiers())) {
                has(page.substring(page.indexOf("### The calls")), "`" + method.getName() + "(");
            }
        }
        for (String constant : new String[] {"UNKNOWN", "OUTSIDE", "STATE", "FULL", "NONE", "LOST"}) {
            has(page, "`" + constant + "`");
        }
        File tests = new File(args[2]).getAbsoluteFile().toPath().resolveSibling("src/test/java").toFile();
        for (String name : tests.list()) {
            if (name.endsWith("Test.java")) {
                has(page, "| " + name.replace(".java", "") + " |");
            }
        }
        CHECK.end();
    }

    private static void has(String page, String words) {
        CHECK.due("README.md has " + words, page.contains(words) ? 1 : 0, 1);
    }

    private static void example(String code) {
        Play x = new Play(CHECK);
        String text = "";
        int calls = 0;
        for (String line : code.split("\n")) {
            Matcher told = TEXT.matcher(line);
            if (told.find()) {
                text = told.group(1);
            }
            Matcher call = CALL.matcher(line);
            if (!call.find()) {
                CHECK.due("a call without its answer: " + line, line.trim().startsWith("x.") ? 1 : 0, 0);
                continue;
            }
            calls++;
            String plain = call.group(1).replace(" ", "").replace("text.length()", "" + text.length());
            long want = Long.parseLong(call.group(2));
            if (!plain.contains("text.charAt(k)")) {
                x.due(plain, want);
                continue;
            }
            for (int k = 0; k < text.length(); k++) {
                x.due(plain.replace("text.charAt(k)", "" + (int) text.charAt(k)).replace(",k,", "," + k + ","), want);
            }
        }
        CHECK.due("the example has calls", calls > 10 ? 1 : 0, 1);
    }
}
