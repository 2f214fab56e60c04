import java.lang.reflect.Field;
import java.lang.reflect.Method;
import java.lang.reflect.Modifier;
import java.nio.file.Files;
import java.nio.file.Path;
import java.util.Set;
import java.util.TreeSet;
import java.util.regex.Matcher;
import java.util.regex.Pattern;

/** The public face, and the rules of LANGUAGE.md that can be seen without running the class. */
public final class FaceTest {
    private static final Check CHECK = new Check();
    private static final String FACE = "int houses(int,int,int,int)|int ofHouse(int,int)|int ofPerson(int,int)"
        + "|int seam(int)|int away(int,boolean)|int gift(int,int,int)|int undo(int)|int wood(int,int,int)"
        + "|int wear(int,int,int)|int cold(int,int)|int chills(int,int)|int all()|int breaks(int)|int best(int)"
        + "|int blame(int)|int warm(int)|int logs(int)|long pays(int,int,int)|int together(int,int,int)"
        + "|int third(int)|int row(int,int,int,int)|int reading(int,int,int,int)|int back(int)|int gone()"
        + "|int seams()|int kinds(int)|long odds(int,int)|int sheet(int,int,int)|int lose(int)"
        + "|int put(int,int,int)|long cell(int,int,int)|int copy(int,int,int,int,int)|int tell(int)"
        + "|int knock(int)|int as(int,int)|int trace()|int fault()|int many(int)";
    private static final String[] FORBIDDEN = {"\\bthrow\\b", "\\bthrows\\b", "\\btry\\b", "\\bcatch\\b",
        "\\bsynchronized\\b", "\\bassert\\b", "->", "::", "\\bpackage\\b", "Exact\\b", "\\bObject\\b",
        "\\bSystem\\.(?!arraycopy\\b)", "^import (?!java\\.util\\.(Arrays|ArrayList|List|Iterator);)",
        "\\bstatic\\s*\\{", "\\bprotected\\b", "\\bfloat\\b", "\\bdouble\\b"};

    public static void main(String[] args) throws Exception {
        face();
        constants();
        sizes();
        if (args.length > 0) {
            source(Files.readString(Path.of(args[0])));
        }
        if (args.length > 1) {
            documentFace(Files.readString(Path.of(args[1])));
        }
        CHECK.end();
    }

    private static void same(String what, String got, String want) {
        CHECK.due(what + ": " + got + " for " + want, got.equals(want) ? 1 : 0, 1);
    }

    private static void face() {
        Set<String> open = new TreeSet<>();
        Set<String> names = new TreeSet<>();
        Set<String> hidden = new TreeSet<>();
        for (Method m : TwoTowns.class.getDeclaredMethods()) {
            if (Modifier.isPrivate(m.getModifiers())) {
                hidden.add(m.getName());
            } else {
                open.add(m.toString().replace("public ", "").replace("TwoTowns.", ""));
                names.add(m.getName());
            }
        }
        same("face", open.toString(), new TreeSet<>(Set.of(FACE.split("\\|"))).toString());
        for (Class<?> inside : TwoTowns.class.getDeclaredClasses()) {
            for (Method m : inside.getDeclaredMethods()) {
                hidden.add(m.getName());
            }
        }
        hidden.retainAll(names);
        same("private names", hidden.toString(), "[]");
        CHECK.due("final", TwoTowns.class.getModifiers(), Modifier.PUBLIC | Modifier.FINAL);
        CHECK.due("constructors", TwoTowns.class.getDeclaredConstructors().length, 1);
        for (Class<?> inside : TwoTowns.class.getDeclaredClasses()) {
            CHECK.due(inside + " is static", Modifier.isStatic(inside.getModifiers()) ? 1 : 0, 1);
        }
    }

    /** Rules 5 and 11 of LANGUAGE.md. */
    private static void sizes() {
        Set<String> large = new TreeSet<>();
        Class<?>[] inside = TwoTowns.class.getDeclaredClasses();
        CHECK.due("classes: " + inside.length, inside.length < 12 ? 1 : 0, 1);
        for (int k = -1; k < inside.length; k++) {
            Class<?> one = k < 0 ? TwoTowns.class : inside[k];
            int fields = 0;
            for (Field f : one.getDeclaredFields()) {
                fields += Modifier.isStatic(f.getModifiers()) ? 0 : 1;
                if (Modifier.isStatic(f.getModifiers()) && !Modifier.isFinal(f.getModifiers())) {
                    large.add(f + " is static and not final");
                }
            }
            if (fields > 20) {
                large.add(one + " has fields: " + fields);
            }
            for (Method m : one.getDeclaredMethods()) {
                if (m.getParameterCount() > 7) {
                    large.add(m + " has parameters: " + m.getParameterCount());
                }
            }
        }
        same("sizes", large.toString(), "[]");
    }

    /** The face as the document writes it, so that the list above is held against it, too. */
    private static void documentFace(String document) throws Exception {
        int from = document.indexOf("public final class TwoTowns {");
        int to = document.indexOf("```", from);
        CHECK.due("the document has a face", from >= 0 && to > from ? 1 : 0, 1);
        String block = document.substring(from, to);
        Set<String> told = new TreeSet<>();
        Matcher method = Pattern.compile("public (\\w+) (\\w+)\\(([^)]*)\\);").matcher(block);
        while (method.find()) {
            told.add(method.group(1) + " " + method.group(2) + "("
                + method.group(3).replaceAll(" \\w+(,|$)", "$1").replace(" ", "") + ")");
        }
        same("the document's calls", told.toString(), new TreeSet<>(Set.of(FACE.split("\\|"))).toString());
        int constants = 0;
        Matcher constant = Pattern.compile("(\\w+) = (Long\\.MIN_VALUE|-?\\d+)").matcher(block);
        while (constant.find()) {
            constants++;
            long want = constant.group(2).startsWith("Long") ? Long.MIN_VALUE : Long.parseLong(constant.group(2));
            CHECK.due(constant.group(1), TwoTowns.class.getField(constant.group(1)).getLong(null), want);
        }
        CHECK.due("the document's constants", constants, 6);
        CHECK.due("promises, the constructor's among them",
            document.split("\n## Promise \\d+: ").length - 1, told.size() + 1);
    }

    private static void constants() {
        Set<String> open = new TreeSet<>();
        for (Field f : TwoTowns.class.getDeclaredFields()) {
            if (!Modifier.isPrivate(f.getModifiers())) {
                open.add(f.toString());
            }
        }
        same("open fields", open.toString(), "[public static final int TwoTowns.FULL, "
            + "public static final int TwoTowns.NONE, public static final int TwoTowns.OUTSIDE, "
            + "public static final int TwoTowns.STATE, public static final int TwoTowns.UNKNOWN, "
            + "public static final long TwoTowns.LOST]");
        CHECK.due("UNKNOWN", TwoTowns.UNKNOWN, -1);
        CHECK.due("OUTSIDE", TwoTowns.OUTSIDE, -2);
        CHECK.due("STATE", TwoTowns.STATE, -3);
        CHECK.due("FULL", TwoTowns.FULL, -4);
        CHECK.due("NONE", TwoTowns.NONE, -9);
        CHECK.due("LOST", TwoTowns.LOST, Long.MIN_VALUE);
    }

    /** Methods stay short: from a line that opens one to the brace that stands as far in. */
    private static void lengths(String text) {
        String opens = "^( +)(?!return|else)[\\w\\[\\] ]+\\([^;{}]*\\) \\{\n";
        Matcher method = Pattern.compile("(?ms)" + opens + ".*?^\\1}$").matcher(text);
        int methods = 0;
        while (method.find()) {
            int lines = method.group().split("\n").length;
            methods++;
            CHECK.due("lines of " + method.group().split("\n")[0].trim() + ": " + lines, lines <= 60 ? 1 : 0, 1);
        }
        CHECK.due("methods in the source: " + methods, methods > 38 ? 1 : 0, 1);
    }

    private static void source(String text) {
        lengths(text);
        String code = text.replaceAll("(?s)/\\*.*?\\*/", "").replaceAll("//[^\n]*", "")
            .replaceAll("\"([^\"\\\\]|\\\\.)*\"", "\"\"");
        for (String word : FORBIDDEN) {
            boolean there = Pattern.compile(word, Pattern.MULTILINE).matcher(code).find();
            CHECK.due("the source has " + word, there ? 1 : 0, 0);
        }
    }
}
