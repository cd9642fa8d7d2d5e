import java.lang.reflect.Method;
import java.lang.reflect.Modifier;
import java.net.URL;
import java.net.URLClassLoader;
import java.nio.file.Files;
import java.nio.file.Path;
import java.util.ArrayList;
import java.util.List;
import java.util.Set;
import java.util.TreeSet;
import java.util.regex.Matcher;
import java.util.regex.Pattern;
import java.util.stream.Stream;
import javax.tools.JavaCompiler;
import javax.tools.ToolProvider;

/**
 * README.md stays true: its Java is compiled as it stands there, and each answer that it tells behind a call
 * ("x.call(..);  // answer: why") is due. It is run from the project's root.
 */
public final class ReadmeTest {
    private static final Pattern CALL = Pattern.compile("(x\\.(\\w+)\\(.*\\)); +// (-?\\d+|BAD|NONE|FULL|FAILED)(?::.*)?");

    private final List<String> imports = new ArrayList<>();
    private final List<String> members = new ArrayList<>();
    private final List<String> body = new ArrayList<>();
    private final Set<String> shown = new TreeSet<>();

    public static void main(String[] args) throws Exception {
        List<String> lines = Files.readAllLines(Path.of("README.md"));
        ReadmeTest test = new ReadmeTest();
        test.readBlocks(lines);
        test.runShown();
        Desk.due("calls that README.md shows with an answer", test.shown, publicMethods());
        String text = String.join("\n", lines);
        namesClasses(text);
        namesTests(text);
        Desk.close();
    }

    /** Asked by the code that is made of README.md: public, since another loader brings that. */
    public static void due(int line, String call, int got, int want) {
        Desk.due("README.md, line " + line + ": " + call, got, want);
    }

    private void readBlocks(List<String> lines) {
        boolean inside = false;
        boolean ofMembers = false;
        for (int i = 0; i < lines.size(); i++) {
            String line = lines.get(i);
            if (line.startsWith("```")) {
                inside = line.equals("```java");
                ofMembers = false;
            } else if (inside && line.startsWith("import ")) {
                imports.add(line);
            } else if (inside) {
                ofMembers |= line.startsWith("static ") || line.startsWith("/**");
                (ofMembers ? members : body).add(ofMembers ? line : asked(i + 1, line));
            }
        }
    }

    /** A call with its answer is asked; a call of the object that tells none is not to be shown. */
    private String asked(int number, String line) {
        Matcher matcher = CALL.matcher(line);
        if (!matcher.matches()) {
            Desk.due("README.md, line " + number + " tells an answer: " + line, line.contains("x."), false);
            return line;
        }
        shown.add(matcher.group(2));
        String answer = Character.isLetter(matcher.group(3).charAt(0)) ? "VertexLanguage." + matcher.group(3) : matcher.group(3);
        return "ReadmeTest.due(" + number + ", \"" + matcher.group(1) + "\", " + matcher.group(1) + ", " + answer + ");";
    }

    private void runShown() throws Exception {
        Path room = Files.createTempDirectory("readme");
        Path source = room.resolve("Shown.java");
        List<String> lines = new ArrayList<>(imports);
        lines.add("public final class Shown {");
        lines.addAll(members);
        lines.add("public static void main(String[] args) {");
        lines.addAll(body);
        lines.add("}");
        lines.add("}");
        Files.write(source, lines);
        JavaCompiler compiler = ToolProvider.getSystemJavaCompiler();
        int compiled = compiler.run(null, null, null, "-cp", System.getProperty("java.class.path"), "-d", room.toString(),
            source.toString());
        Desk.due("compiling what README.md shows", compiled, 0);
        if (compiled == 0) {
            try (URLClassLoader loader = new URLClassLoader(new URL[] {room.toUri().toURL()})) {
                loader.loadClass("Shown").getMethod("main", String[].class).invoke(null, (Object) new String[0]);
            }
        }
        remove(room);
    }

    private static void remove(Path room) throws Exception {
        try (Stream<Path> files = Files.list(room)) {
            for (Path file : files.toList()) {
                Files.delete(file);
            }
        }
        Files.delete(room);
    }

    private static Set<String> publicMethods() {
        Set<String> names = new TreeSet<>();
        for (Method method : VertexLanguage.class.getDeclaredMethods()) {
            if (Modifier.isPublic(method.getModifiers())) {
                names.add(method.getName());
            }
        }
        return names;
    }

    private static void namesClasses(String text) {
        for (Class<?> inside : VertexLanguage.class.getDeclaredClasses()) {
            Desk.due("README.md names " + inside, text.contains("`" + inside.getSimpleName() + "`"), true);
        }
    }

    /** Each test that it names is there; each that is there it names, or the row of promises has it. */
    private static void namesTests(String text) throws Exception {
        Matcher matcher = Pattern.compile("\\b[A-Z]\\w*Test\\b").matcher(text);
        while (matcher.find()) {
            Path file = Path.of("src/test/java", matcher.group() + ".java");
            Desk.due("README.md names " + file, Files.exists(file), true);
        }
        try (Stream<Path> files = Files.list(Path.of("src/test/java"))) {
            for (Path file : files.toList()) {
                String name = file.getFileName().toString().replace(".java", "");
                Desk.due("README.md names " + name, name.startsWith("Promise") || text.contains("`" + name + "`"), true);
            }
        }
    }
}
