import java.io.IOException;
import java.lang.reflect.Constructor;
import java.lang.reflect.Field;
import java.lang.reflect.Method;
import java.lang.reflect.Modifier;
import java.nio.file.Files;
import java.nio.file.Path;
import java.util.ArrayList;
import java.util.List;
import java.util.TreeSet;
import java.util.regex.Pattern;

/** The face of the class is the document's, and the source keeps to the rules of LANGUAGE.md that its words show. */
public final class FaceTest {
    private static final String[] RULED_OUT = {"::", "\\bfinally\\b", "\\bsynchronized\\b", "\\bassert\\b",
        "\\bprotected\\b", "\\bvolatile\\b", "\\bnative\\b", "\\bThread\\b", "\\bRandom\\b", "Exact\\(", "hashCode",
        "getMessage", "extends \\w*Exception", "\\bSystem\\.(?!arraycopy)", "^package ", "^import (?!java\\.)",
        "^import java\\.(?!util\\.(Arrays|ArrayList|List|Iterator|NoSuchElementException);)",
        "catch .*(Throwable|\\(Exception|ArrayIndexOutOf|NullPointer|ClassCast|NegativeArraySize|ArrayStore)"};
    /** 'Some sixty' and 'some twelve'. */
    private static final int MOST_LINES = 66;
    private static final int MOST_CLASSES = 14;

    private static final Due DUE = new Due();

    private FaceTest() {
    }

    /** The document's path, then the source's. */
    public static void main(String[] args) throws IOException {
        face(Files.readAllLines(Path.of(args[0])));
        members();
        source(Files.readAllLines(Path.of(args[1])));
        DUE.end("FaceTest");
    }

    private static void face(List<String> doc) {
        TreeSet<String> want = new TreeSet<>();
        for (String line : doc) {
            if (line.startsWith("    public ")) {
                want.add(line.trim().replaceAll("\\b(int|char) \\w+([,)])", "$1$2").replace(";", ""));
            }
        }
        TreeSet<String> got = new TreeSet<>();
        for (Constructor<?> c : ScoreSheaf.class.getConstructors()) {
            got.add("public ScoreSheaf(" + names(c.getParameterTypes()) + ")" + thrown(c.getExceptionTypes()));
        }
        for (Method m : ScoreSheaf.class.getDeclaredMethods()) {
            if (Modifier.isPublic(m.getModifiers())) {
                got.add("public " + m.getReturnType().getSimpleName() + " " + m.getName()
                    + "(" + names(m.getParameterTypes()) + ")" + thrown(m.getExceptionTypes()));
            }
        }
        DUE.is("the face", got, want);
        DUE.is("it is not empty", want.size() > 30, true);
        DUE.is("public and final", Modifier.toString(ScoreSheaf.class.getModifiers()), "public final");
    }

    private static String names(Class<?>[] types) {
        List<String> names = new ArrayList<>();
        for (Class<?> type : types) {
            names.add(type.getSimpleName());
        }
        return String.join(", ", names);
    }

    private static String thrown(Class<?>[] types) {
        return types.length == 0 ? "" : " throws " + names(types);
    }

    private static void members() {
        TreeSet<String> open = new TreeSet<>();
        for (Method m : ScoreSheaf.class.getDeclaredMethods()) {
            if (Modifier.isPublic(m.getModifiers())) {
                open.add(m.getName());
            }
        }
        for (Method m : ScoreSheaf.class.getDeclaredMethods()) {
            boolean own = Modifier.isPrivate(m.getModifiers()) && !open.contains(m.getName());
            boolean is = m.isSynthetic() || Modifier.isPublic(m.getModifiers()) || own;
            DUE.is("rule 1: " + m.getName() + " is public, or private with a name of its own", is, true);
        }
        for (Field f : ScoreSheaf.class.getDeclaredFields()) {
            DUE.is("rule 1: " + f.getName() + " is private", Modifier.isPrivate(f.getModifiers()), true);
            int both = f.getModifiers() & (Modifier.STATIC | Modifier.FINAL);
            DUE.is("rule 5: " + f.getName() + " is final if static", both != Modifier.STATIC, true);
        }
        Class<?>[] inside = ScoreSheaf.class.getDeclaredClasses();
        for (Class<?> c : inside) {
            int shown = c.getModifiers() & (Modifier.PUBLIC | Modifier.PROTECTED);
            DUE.is("rule 1: " + c.getName() + " is private or package-visible", shown, 0);
        }
        DUE.is("rule 11: some twelve classes", inside.length < MOST_CLASSES, true);
    }

    private static void source(List<String> lines) {
        for (int at = 0; at < lines.size(); at++) {
            String code = codeOf(lines.get(at));
            for (String word : RULED_OUT) {
                DUE.is("line " + (at + 1) + " has " + word, Pattern.compile(word).matcher(code).find(), false);
            }
            boolean lambda = code.contains("->") && !code.matches(" *(case|default)\\b.*");
            DUE.is("line " + (at + 1) + " has a lambda", lambda, false);
        }
        methods(lines, 4);
        methods(lines, 8);
    }

    /** Without texts and comments, which may have any word. */
    private static String codeOf(String line) {
        return line.replaceAll("\"[^\"]*\"|'[^']*'|//.*|/\\*.*|^ *\\*.*", "");
    }

    /** Those that stand so far in: methods of the class, or of the classes inside it. */
    private static void methods(List<String> lines, int indent) {
        int opened = -1;
        for (int at = 0; at < lines.size(); at++) {
            String code = codeOf(lines.get(at));
            if (code.matches(" {" + indent + "}\\S.*\\{")) {
                opened = code.matches(".*\\b(class|enum|interface|record)\\b.*") ? -1 : at;
            }
            if (code.matches(" {" + indent + "}\\}")) {
                boolean isShort = opened < 0 || at - opened < MOST_LINES;
                DUE.is("rule 11: what ends in line " + (at + 1) + " is short", isShort, true);
                opened = -1;
            }
        }
    }
}
