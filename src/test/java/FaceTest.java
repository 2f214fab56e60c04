import java.lang.reflect.Field;
import java.lang.reflect.Method;
import java.lang.reflect.Modifier;
import java.nio.file.Files;
import java.nio.file.Path;
import java.util.Set;
import java.util.TreeSet;
import java.util.regex.Pattern;

/** The public face, and the rules of LANGUAGE.md that can be seen without running the class. */
public final class FaceTest {
    private static final Check CHECK = new Check();
    private static final String FACE = "int houses(int,int,int,int)|int ofHouse(int,int)|int ofPerson(int,int)"
        + "|int seam(int)|int away(int,boolean)|int gift(int,int,int)|int undo(int)|int wood(int,int,int)"
        + "|int wear(int,int,int)|int cold(int,int)|int chills(int,int)|int all()|int breaks(int)|int best(int)"
        + "|int blame(int)|int warm(int)|int logs(int)|long pays(int,int,int)|int together(int,int,int)"
        + "|int third(int)|int row(int,int,int,int)|int reading(int,int,int,int)|int back(int)|int gone()"
        + "|int seams()|int kinds(int)|long odds(int,int)|int sheet(int,int,int)|int lose(int)"
        + "|int put(int,int,int)|long cell(int,int,int)|int copy(int,int,int,int,int)|int tell(int)"
        + "|int knock(int)|int as(int,int)|int trace()|int fault()|int many(int)";
    private static final String[] FORBIDDEN = {"\\bthrow\\b", "\\bthrows\\b", "\\btry\\b", "\\bcatch\\b",
        "\\bsynchronized\\b", "\\bassert\\b", "->", "::", "\\bpackage\\b", "Exact\\b", "\\bObject\\b",
        "\\bSystem\\.(?!arraycopy\\b)", "^import (?!java\\.util\\.(Arrays|ArrayList|List|Iterator);)",
        "\\bstatic\\s*\\{", "\\bprotected\\b", "\\bfloat\\b", "\\bdouble\\b"};

    public static void main(String[] args) throws Exception {
        face();
        constants();
        if (args.length > 0) {
            source(Files.readString(Path.of(args[0])));
        }
        CHECK.end();
    }

    private static void same(String what, String got, String want) {
        CHECK.due(what + ": " + got + " for " + want, got.equals(want) ? 1 : 0, 1);
    }

    private static void face() {
        Set<String> open = new TreeSet<>();
        Set<String> names = new TreeSet<>();
        Set<String> hidden = new TreeSet<>();
        for (Method m : TwoTowns.class.getDeclaredMethods()) {
            if (Modifier.isPrivate(m.getModifiers())) {
                hidden.add(m.getName());
            } else {
                open.add(m.toString().replace("public ", "").replace("TwoTowns.", ""));
                names.add(m.getName());
            }
        }
        same("face", open.toString(), new TreeSet<>(Set.of(FACE.split("\\|"))).toString());
        hidden.retainAll(names);
        same("private names", hidden.toString(), "[]");
        CHECK.due("final", TwoTowns.class.getModifiers(), Modifier.PUBLIC | Modifier.FINAL);
        CHECK.due("constructors", TwoTowns.class.getDeclaredConstructors().length, 1);
        for (Class<?> inside : TwoTowns.class.getDeclaredClasses()) {
            CHECK.due(inside + " is static", Modifier.isStatic(inside.getModifiers()) ? 1 : 0, 1);
        }
    }

    private static void constants() {
        Set<String> open = new TreeSet<>();
        for (Field f : TwoTowns.class.getDeclaredFields()) {
            if (!Modifier.isPrivate(f.getModifiers())) {
                open.add(f.toString());
            }
        }
        same("open fields", open.toString(), "[public static final int TwoTowns.FULL, "
            + "public static final int TwoTowns.NONE, public static final int TwoTowns.OUTSIDE, "
            + "public static final int TwoTowns.STATE, public static final int TwoTowns.UNKNOWN, "
            + "public static final long TwoTowns.LOST]");
        CHECK.due("UNKNOWN", TwoTowns.UNKNOWN, -1);
        CHECK.due("OUTSIDE", TwoTowns.OUTSIDE, -2);
        CHECK.due("STATE", TwoTowns.STATE, -3);
        CHECK.due("FULL", TwoTowns.FULL, -4);
        CHECK.due("NONE", TwoTowns.NONE, -9);
        CHECK.due("LOST", TwoTowns.LOST, Long.MIN_VALUE);
    }

    private static void source(String text) {
        String code = text.replaceAll("(?s)/\\*.*?\\*/", "").replaceAll("//[^\n]*", "")
            .replaceAll("\"([^\"\\\\]|\\\\.)*\"", "\"\"");
        for (String word : FORBIDDEN) {
            boolean there = Pattern.compile(word, Pattern.MULTILINE).matcher(code).find();
            CHECK.due("the source has " + word, there ? 1 : 0, 0);
        }
    }
}
