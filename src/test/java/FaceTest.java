import java.io.IOException;
import java.lang.reflect.Constructor;
import java.lang.reflect.Field;
import java.lang.reflect.Method;
import java.lang.reflect.Modifier;
import java.nio.file.Files;
import java.nio.file.Path;
import java.util.ArrayList;
import java.util.List;
import java.util.TreeSet;

/** The face of the class is the document's, and the source keeps to the plainest rules of LANGUAGE.md. */
public final class FaceTest {
    private static final String[] RULED_OUT = {"->", "::", "finally", "synchronized", "assert ", "Math.random",
        "currentTime", "nanoTime", "catch", "hashCode", "instanceof", "native", "volatile", "abstract", "protected"};

    private static final Due DUE = new Due();

    private FaceTest() {
    }

    /** The document's path, then the source's. */
    public static void main(String[] args) throws IOException {
        face(Files.readAllLines(Path.of(args[0])));
        members();
        source(Files.readAllLines(Path.of(args[1])));
        DUE.end("FaceTest");
    }

    private static void face(List<String> doc) {
        TreeSet<String> want = new TreeSet<>();
        for (String line : doc) {
            if (line.startsWith("    public ")) {
                want.add(line.trim().replaceAll("\\b(int|char) \\w+([,)])", "$1$2").replace(";", ""));
            }
        }
        TreeSet<String> got = new TreeSet<>();
        for (Constructor<?> c : ScoreSheaf.class.getConstructors()) {
            got.add("public ScoreSheaf(" + names(c.getParameterTypes()) + ")" + thrown(c.getExceptionTypes()));
        }
        for (Method m : ScoreSheaf.class.getDeclaredMethods()) {
            if (Modifier.isPublic(m.getModifiers())) {
                got.add("public " + m.getReturnType().getSimpleName() + " " + m.getName()
                    + "(" + names(m.getParameterTypes()) + ")" + thrown(m.getExceptionTypes()));
            }
        }
        DUE.is("the face", got, want);
        DUE.is("it is not empty", want.size() > 30, true);
        DUE.is("public and final", Modifier.toString(ScoreSheaf.class.getModifiers()), "public final");
    }

    private static String names(Class<?>[] types) {
        List<String> names = new ArrayList<>();
        for (Class<?> type : types) {
            names.add(type.getSimpleName());
        }
        return String.join(", ", names);
    }

    private static String thrown(Class<?>[] types) {
        return types.length == 0 ? "" : " throws " + names(types);
    }

    private static void members() {
        TreeSet<String> open = new TreeSet<>();
        for (Method m : ScoreSheaf.class.getDeclaredMethods()) {
            if (Modifier.isPublic(m.getModifiers())) {
                open.add(m.getName());
            }
        }
        for (Method m : ScoreSheaf.class.getDeclaredMethods()) {
            boolean own = Modifier.isPrivate(m.getModifiers()) && !open.contains(m.getName());
            DUE.is(m.getName() + " is public or private", Modifier.isPublic(m.getModifiers()) || own, true);
        }
        for (Field f : ScoreSheaf.class.getDeclaredFields()) {
            DUE.is(f.getName() + " is private", Modifier.isPrivate(f.getModifiers()), true);
            int both = f.getModifiers() & (Modifier.STATIC | Modifier.FINAL);
            DUE.is(f.getName() + " is final if static", both != Modifier.STATIC, true);
        }
        for (Class<?> c : ScoreSheaf.class.getDeclaredClasses()) {
            DUE.is(c.getName() + " is private", Modifier.toString(c.getModifiers()), "private static final");
            for (Method m : c.getDeclaredMethods()) {
                DUE.is(m.getName() + " is not a name of the face", open.contains(m.getName()), false);
            }
        }
    }

    private static void source(List<String> lines) {
        int since = 0;
        for (int at = 0; at < lines.size(); at++) {
            String line = lines.get(at);
            String code = line.contains("//") || line.contains("/**") ? "" : line;
            for (String word : RULED_OUT) {
                DUE.is("line " + (at + 1) + " has " + word, code.contains(word), false);
            }
            if (line.startsWith("import ")) {
                boolean known = line.equals("import java.util.Arrays;")
                    || line.equals("import java.util.NoSuchElementException;");
                DUE.is("line " + (at + 1) + " imports what is listed", known, true);
            }
            since = line.isEmpty() ? 0 : since + 1;
            DUE.is("line " + (at + 1) + " stands in a short method", since <= 60, true);
        }
    }
}
