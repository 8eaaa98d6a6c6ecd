import java.io.IOException;
import java.lang.reflect.Constructor;
import java.lang.reflect.Field;
import java.lang.reflect.Method;
import java.lang.reflect.Modifier;
import java.nio.file.Files;
import java.nio.file.Path;
import java.util.ArrayList;
import java.util.Arrays;
import java.util.List;
import java.util.Set;
import java.util.TreeSet;
import java.util.regex.Matcher;
import java.util.regex.Pattern;

/** The public face, and those rules of LANGUAGE.md that can be seen from outside or in the text of the class. */
public final class FaceTest {
    private static final String[] FACE = {
        "int feed(int, int, int, int, int) UnsupportedOperationException",
        "void end(int) IllegalArgumentException",
        "int series() UnsupportedOperationException",
        "int fault(int) IndexOutOfBoundsException",
        "int letter(int, int) IndexOutOfBoundsException",
        "int append(int, long, long) IndexOutOfBoundsException IllegalArgumentException UnsupportedOperationException",
        "int bulk(int) IndexOutOfBoundsException",
        "int delete(int, long, long) IndexOutOfBoundsException IllegalArgumentException UnsupportedOperationException",
        "int retain(long) IllegalArgumentException",
        "int ask(long, long, int) IllegalArgumentException",
        "int names()",
        "int text(int, int, int) IndexOutOfBoundsException",
        "boolean isThere(int, int) IndexOutOfBoundsException",
        "long cell(int, int) IndexOutOfBoundsException",
        "long last(int) IndexOutOfBoundsException",
        "int pack() UnsupportedOperationException",
        "int count(int) IllegalArgumentException"
    };

    public static void main(String[] args) throws IOException {
        publicFace();
        insideClasses();
        textOfTheClass(Files.readString(Path.of(args[0], "src/main/java/WindowTables.java")));
        Check.finish("FaceTest");
    }

    private static void publicFace() {
        Class<?> face = WindowTables.class;
        Check.due("modifiers", Modifier.toString(face.getModifiers()), "public final");
        Set<String> open = new TreeSet<>();
        for (Method m : face.getDeclaredMethods()) {
            if (!Modifier.isPrivate(m.getModifiers())) {
                open.add(Modifier.toString(m.getModifiers()) + " " + described(m));
            }
        }
        Set<String> due = new TreeSet<>();
        for (String m : FACE) {
            due.add("public " + m);
        }
        Check.due("methods", open.toString(), due.toString());
        Check.due("constructors", Arrays.toString(face.getDeclaredConstructors()), "[public WindowTables()]");
        for (Field f : face.getDeclaredFields()) {
            boolean isNone = f.getName().equals("NONE");
            Check.due(f.getName(), Modifier.isPrivate(f.getModifiers()) ? "private" : Modifier.toString(f.getModifiers()),
                    isNone ? "public static final" : "private");
            if (Modifier.isStatic(f.getModifiers())) {
                Check.due(f.getName() + " is final", Modifier.isFinal(f.getModifiers()) ? 1 : 0, 1);
            }
        }
    }

    private static String described(Method m) {
        List<String> parameters = new ArrayList<>();
        for (Class<?> p : m.getParameterTypes()) {
            parameters.add(p.getSimpleName());
        }
        StringBuilder text = new StringBuilder(m.getReturnType().getSimpleName());
        text.append(' ').append(m.getName()).append('(').append(String.join(", ", parameters)).append(')');
        for (Class<?> e : m.getExceptionTypes()) {
            text.append(' ').append(e.getSimpleName());
        }
        return text.toString();
    }

    private static void insideClasses() {
        Set<String> faceNames = new TreeSet<>();
        for (String m : FACE) {
            faceNames.add(m.substring(m.indexOf(' ') + 1, m.indexOf('(')));
        }
        Class<?>[] inside = WindowTables.class.getDeclaredClasses();
        Check.due("some twelve classes", inside.length <= 12 ? 1 : 0, 1);
        for (Class<?> c : inside) {
            Check.due(c + " is static", Modifier.isStatic(c.getModifiers()) ? 1 : 0, 1);
            Check.due(c + " is not public", Modifier.isPublic(c.getModifiers()) ? 1 : 0, 0);
            Check.due(c + " has some twenty fields", c.getDeclaredFields().length <= 20 ? 1 : 0, 1);
            for (Method m : c.getDeclaredMethods()) {
                Check.due(c + "." + m.getName() + " is no name of the face", faceNames.contains(m.getName()) ? 1 : 0, 0);
                Check.due(c + "." + m.getName() + " parameters", m.getParameterCount() <= 7 ? 1 : 0, 1);
            }
            for (Constructor<?> m : c.getDeclaredConstructors()) {
                Check.due(c + " parameters", m.getParameterCount() <= 7 ? 1 : 0, 1);
            }
        }
        for (Method m : WindowTables.class.getDeclaredMethods()) {
            boolean isPrivate = Modifier.isPrivate(m.getModifiers());
            Check.due(m.getName(), isPrivate && faceNames.contains(m.getName()) ? 1 : 0, 0);
        }
    }

    private static void textOfTheClass(String source) {
        for (int i = 0; i < source.length(); i++) {
            char c = source.charAt(i);
            if (c != '\n' && (c < 32 || c > 126)) {
                Check.due("character at " + i, c, ' ');
            }
        }
        String code = source.replaceAll("/\\*\\*(?s:.*?)\\*/", "").replaceAll("//.*", "")
                .replaceAll("\"[^\"]*\"", "\"\"").replaceAll("'(\\\\?.)'", "0");
        String[] never = {"->", "::", "\\bassert\\b", "\\bsynchronized\\b", "\\bcatch\\b", "\\btry\\b", "\\bfinally\\b",
            "\\bpackage\\b", "\\bstatic \\{", "\\bequals\\(", "\\bhashCode\\b", "\\btoString\\b", "Exact\\b",
            "\\bdouble\\b", "\\bfloat\\b", "\\bObject\\b", "while \\(true\\)", "for \\(;", "\\bnull\\."};
        for (String word : never) {
            Check.due("the class has " + word, Pattern.compile(word).matcher(code).find() ? 1 : 0, 0);
        }
        Matcher imports = Pattern.compile("import ([^;]*);").matcher(code);
        while (imports.find()) {
            Check.due("import", imports.group(1), "java.util.Arrays");
        }
        Matcher calls = Pattern.compile("\\b(Arrays|System|Math|Integer|Long)\\.(\\w+)").matcher(code);
        Set<String> allowed = Set.of("Arrays.copyOf", "System.arraycopy", "Math.min", "Math.max", "Integer.compare");
        while (calls.find()) {
            Check.due(calls.group(), allowed.contains(calls.group()) ? 1 : 0, 1);
        }
        Matcher thrown = Pattern.compile("throw ([^;]*);").matcher(code);
        while (thrown.find()) {
            boolean fits = thrown.group(1).matches(
                    "new (IndexOutOfBounds|IllegalArgument|UnsupportedOperation)Exception\\(\"\"\\)");
            Check.due("throw " + thrown.group(1), fits ? 1 : 0, 1);
        }
        methodLengths(source);
    }

    private static void methodLengths(String source) {
        String[] lines = source.split("\n");
        int start = -1;
        for (int i = 0; i < lines.length; i++) {
            if (lines[i].matches(" {4,8}[a-zA-Z].*\\) .*\\{") || lines[i].matches(" {4,8}[a-zA-Z].*\\) *\\{")) {
                start = i;
            }
            if (start >= 0 && lines[i].matches(" {4,8}\\}")) {
                Check.due("lines of the method at line " + (start + 1), i - start <= 60 ? 1 : 0, 1);
                start = -1;
            }
        }
    }
}
