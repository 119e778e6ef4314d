import java.io.StringWriter;
import java.lang.reflect.Method;
import java.lang.reflect.Modifier;
import java.net.URL;
import java.net.URLClassLoader;
import java.nio.file.Files;
import java.nio.file.Path;
import java.util.ArrayList;
import java.util.List;
import java.util.Set;
import java.util.TreeSet;
import java.util.regex.Matcher;
import java.util.regex.Pattern;
import javax.tools.JavaCompiler;
import javax.tools.JavaFileObject;
import javax.tools.StandardJavaFileManager;
import javax.tools.ToolProvider;

/** The calls that README.md shows, compiled and run as they stand there. Run from the project's root. */
public final class ReadmeTest {
    private static final Due due = new Due();
    private static final Pattern SHOWN = Pattern.compile("(x\\.(\\w+)\\([^;]*\\));\\s+// (-?\\d+|[A-Z]+)\\b.*");

    private final StringBuilder body = new StringBuilder();
    private final List<String> calls = new ArrayList<>();
    private final List<Long> told = new ArrayList<>();
    private final Set<String> names = new TreeSet<>();

    public static void main(String[] args) throws Exception {
        ReadmeTest test = new ReadmeTest();
        test.read(Files.readAllLines(Path.of("README.md")));
        test.showsEachCall();
        test.compare(test.answers());
        due.end();
    }

    private void read(List<String> lines) throws ReflectiveOperationException {
        boolean isJava = false;
        for (String line : lines) {
            if (line.startsWith("```")) {
                isJava = line.equals("```java");
            } else if (isJava) {
                readCode(line);
            }
        }
    }

    private void readCode(String line) throws ReflectiveOperationException {
        Matcher shown = SHOWN.matcher(line);
        boolean tells = shown.matches();
        // A call of which no answer is told would be shown, but not tested.
        if (line.startsWith("x.")) due.is("README.md tells an answer of: " + line, tells ? 1 : 0, 1);
        if (!tells) {
            body.append(line).append('\n');
            return;
        }
        body.append("answers.add((long) ").append(shown.group(1)).append(");\n");
        calls.add(shown.group(1));
        names.add(shown.group(2));
        told.add(number(shown.group(3)));
    }

    private static long number(String told) throws ReflectiveOperationException {
        return Character.isLetter(told.charAt(0)) ? MornMarket.class.getField(told).getLong(null) : Long.parseLong(told);
    }

    private void showsEachCall() {
        for (Method method : MornMarket.class.getDeclaredMethods()) {
            if (!Modifier.isPublic(method.getModifiers())) continue;
            due.is("README.md shows " + method.getName(), names.contains(method.getName()) ? 1 : 0, 1);
        }
    }

    private void compare(List<?> answers) {
        due.is("how many answers", answers.size(), told.size());
        for (int k = 0; k < Math.min(answers.size(), told.size()); k++) {
            due.is("README.md: " + calls.get(k), (Long) answers.get(k), told.get(k));
        }
    }

    private List<?> answers() throws Exception {
        Path place = Files.createTempDirectory("readme");
        try {
            Path source = place.resolve("Shown.java");
            Files.writeString(source, "public final class Shown {\npublic static java.util.List<Long> answers() {\n"
                + "java.util.List<Long> answers = new java.util.ArrayList<>();\n" + body + "return answers;\n}\n}\n");
            if (!compiles(source)) return List.of();
            try (URLClassLoader loader = new URLClassLoader(new URL[] {place.toUri().toURL()})) {
                return (List<?>) loader.loadClass("Shown").getMethod("answers").invoke(null);
            }
        } finally {
            for (String left : new String[] {"Shown.java", "Shown.class", ""}) Files.deleteIfExists(place.resolve(left));
        }
    }

    private static boolean compiles(Path source) throws Exception {
        JavaCompiler compiler = ToolProvider.getSystemJavaCompiler();
        StringWriter faults = new StringWriter();
        try (StandardJavaFileManager files = compiler.getStandardFileManager(null, null, null)) {
            Iterable<? extends JavaFileObject> units = files.getJavaFileObjects(source);
            List<String> options = List.of("-d", source.getParent().toString(), "-cp", System.getProperty("java.class.path"));
            boolean compiled = compiler.getTask(faults, files, null, options, null, units).call();
            due.is("README.md's lines compile: " + faults, compiled ? 1 : 0, 1);
            return compiled;
        }
    }
}
