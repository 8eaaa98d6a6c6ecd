import java.io.IOException;
import java.io.PrintWriter;
import java.io.StringWriter;
import java.lang.reflect.InvocationTargetException;
import java.lang.reflect.Method;
import java.lang.reflect.Modifier;
import java.net.URL;
import java.net.URLClassLoader;
import java.nio.file.DirectoryStream;
import java.nio.file.Files;
import java.nio.file.Path;
import java.util.ArrayList;
import java.util.List;
import java.util.Set;
import java.util.TreeSet;
import java.util.regex.Matcher;
import java.util.regex.Pattern;
import java.util.spi.ToolProvider;

/**
 * The calls that README.md shows: its blocks of Java become a class, which is compiled and run, and each call must
 * answer what stands behind it. A call without its answer, or outside of a block, is a failure, too.
 */
public final class ReadmeTest {
    private static final Pattern LINE = Pattern.compile("((?:int|long|boolean) \\w+ = )?(\\w.*;)(?: *// (.*))?");
    private static final Pattern CALL = Pattern.compile("x\\.(\\w+)\\(.*\\);");
    private static final Pattern ANSWER = Pattern.compile("(-?\\d+|'.'|NONE|true|false|throws \\w+)(?::.*)?");

    private final Set<String> answering = new TreeSet<>();
    private final Set<String> silent = new TreeSet<>();
    private final Set<String> shown = new TreeSet<>();
    private final StringBuilder members = new StringBuilder();
    private final StringBuilder body = new StringBuilder();
    private final List<String> calls = new ArrayList<>();
    private final List<String> answers = new ArrayList<>();

    public static void main(String[] args) throws Exception {
        Path root = Path.of(args[0]);
        List<String> lines = Files.readAllLines(root.resolve("README.md"));
        ReadmeTest test = new ReadmeTest();
        test.read(lines);
        test.allMethodsAreShown();
        test.compare(test.run());
        everyTestIsNamed(root, String.join("\n", lines));
        Check.finish("ReadmeTest");
    }

    private ReadmeTest() {
        for (Method m : WindowTables.class.getDeclaredMethods()) {
            if (Modifier.isPublic(m.getModifiers())) {
                (m.getReturnType() == void.class ? silent : answering).add(m.getName());
            }
        }
    }

    private void read(List<String> lines) {
        boolean inBlock = false;
        boolean inMembers = false;
        for (int i = 0; i < lines.size(); i++) {
            String line = lines.get(i);
            if (line.startsWith("```")) {
                inBlock = line.equals("```java");
                inMembers = inBlock && i + 1 < lines.size() && lines.get(i + 1).startsWith("static ");
            } else if (inMembers) {
                members.append(line).append('\n');
            } else if (inBlock) {
                readStatement("README.md:" + (i + 1) + ": " + line, line);
            } else {
                readProse("README.md:" + (i + 1) + ": " + line, line);
            }
        }
    }

    /** What is said between the blocks is run by nobody, and so it must show no call. */
    private void readProse(String where, String line) {
        Matcher call = Pattern.compile("(\\w+)\\([^)]*\\)").matcher(line);
        while (call.find()) {
            boolean isOfTheFace = answering.contains(call.group(1)) || silent.contains(call.group(1));
            Check.due(where + " shows a call outside of a block", isOfTheFace, false);
        }
    }

    private void readStatement(String where, String line) {
        if (line.isEmpty()) {
            return;
        }
        Matcher parts = LINE.matcher(line);
        boolean isStatement = parts.matches();
        Check.due(where + " is a statement", isStatement, true);
        if (!isStatement) {
            return;
        }
        Matcher call = CALL.matcher(parts.group(2));
        if (!call.matches()) {
            boolean isKnown = parts.group(2).startsWith("write(x, ") || line.contains(" = new WindowTables();");
            Check.due(where + " is a call whose answer is looked at", isKnown, true);
            body.append(line).append('\n');
            return;
        }
        shown.add(call.group(1));
        readCall(where, parts.group(1), parts.group(2), parts.group(3) == null ? "" : parts.group(3));
    }

    private void readCall(String where, String assigned, String call, String comment) {
        Matcher answer = ANSWER.matcher(comment);
        boolean isAnswered = answer.matches();
        String due = isAnswered ? answer.group(1) : "";
        boolean answersNothing = call.startsWith("x.end(") && !due.startsWith("throws ");
        Check.due(where + " says its answer", isAnswered, !answersNothing);
        if (answersNothing) {
            body.append(call).append('\n');
            return;
        }
        if (!isAnswered) {
            return;
        }
        calls.add(where);
        answers.add(plain(due));
        if (due.startsWith("throws ")) {
            body.append("try { ").append(call).append(" answers.add(\"nothing thrown\"); } ");
            body.append("catch (RuntimeException e) { answers.add(\"throws \" + e.getClass().getSimpleName()); }\n");
        } else if (assigned == null) {
            body.append("answers.add(String.valueOf(").append(call, 0, call.length() - 1).append("));\n");
        } else {
            body.append(assigned).append(call);
            body.append(" answers.add(String.valueOf(").append(assigned.split(" ")[1]).append("));\n");
        }
    }

    private static String plain(String answer) {
        if (answer.startsWith("'")) {
            return Integer.toString(answer.charAt(1));
        }
        return answer.equals("NONE") ? Integer.toString(WindowTables.NONE) : answer;
    }

    private void allMethodsAreShown() {
        Set<String> face = new TreeSet<>(answering);
        face.addAll(silent);
        Check.due("the methods that README.md shows", shown.toString(), face.toString());
    }

    /** The answers of the calls, one after another; fewer, if one of them threw what nobody said. */
    private List<String> run() throws IOException, ReflectiveOperationException {
        Path place = Files.createTempDirectory("readme");
        List<String> got = new ArrayList<>();
        try {
            Path source = place.resolve("Readme.java");
            Files.writeString(source, "public class Readme {\n" + members
                    + "public static void run(java.util.List<String> answers) {\n" + body + "}\n}\n");
            StringWriter said = new StringWriter();
            int code = ToolProvider.findFirst("javac").orElseThrow().run(new PrintWriter(said), new PrintWriter(said),
                    "-d", place.toString(), "-cp", System.getProperty("java.class.path"), source.toString());
            Check.due("compiling the blocks of README.md", code + said.toString(), "0");
            if (code == 0) {
                runCompiled(place, got);
            }
        } finally {
            removeAll(place);
        }
        return got;
    }

    private static void runCompiled(Path place, List<String> got) throws IOException, ReflectiveOperationException {
        try (URLClassLoader loader = new URLClassLoader(new URL[] {place.toUri().toURL()})) {
            loader.loadClass("Readme").getMethod("run", List.class).invoke(null, got);
        } catch (InvocationTargetException e) {
            got.add("throws " + e.getCause().getClass().getSimpleName());
        }
    }

    private static void removeAll(Path place) throws IOException {
        try (DirectoryStream<Path> files = Files.newDirectoryStream(place)) {
            for (Path file : files) {
                Files.delete(file);
            }
        }
        Files.delete(place);
    }

    private void compare(List<String> got) {
        Check.due("how many calls of README.md were made", got.size(), calls.size());
        for (int i = 0; i < calls.size(); i++) {
            Check.due(calls.get(i), i < got.size() ? got.get(i) : "nothing: it was not made", answers.get(i));
        }
    }

    private static void everyTestIsNamed(Path root, String readme) throws IOException {
        try (DirectoryStream<Path> tests = Files.newDirectoryStream(root.resolve("src/test/java"), "*Test.java")) {
            for (Path test : tests) {
                String name = test.getFileName().toString().replace(".java", "");
                Check.due("README.md names " + name, readme.contains("| `" + name + "` |"), true);
            }
        }
        Matcher named = Pattern.compile("\\| `(\\w+Test)` \\|").matcher(readme);
        while (named.find()) {
            Path file = root.resolve("src/test/java/" + named.group(1) + ".java");
            Check.due(named.group(1) + " is there", Files.exists(file), true);
        }
        Check.due("README.md says how to run the tests", readme.contains("\n    .ci/run\n"), true);
    }
}
