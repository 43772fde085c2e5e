import java.io.IOException;
import java.lang.reflect.Method;
import java.lang.reflect.Modifier;
import java.net.URL;
import java.net.URLClassLoader;
import java.nio.file.Files;
import java.nio.file.Path;
import java.util.ArrayList;
import java.util.List;
import java.util.regex.Matcher;
import java.util.regex.Pattern;
import javax.tools.ToolProvider;

/** README.md: its examples are compiled and give the answers that stand behind their calls; it names every call. */
public final class SymbolLinkerReadme {
    private static final Path README = Path.of("README.md");
    private static final Pattern MADE = Pattern.compile("SymbolLinker x = new SymbolLinker\\(\\);");
    private static final Pattern SILENT = Pattern.compile("x\\.clear\\(\\);\\s*(//.*)?");
    private static final Pattern THROWS = Pattern.compile("(x\\.\\w+\\(.*\\));\\s*// throws (\\w+)(:.*)?");
    private static final Pattern ANSWERS = Pattern.compile("(x\\.\\w+\\([^;]*\\));\\s*// (-?\\w+)(:.*)?");

    private static int asked = 0;
    private static int wrong = 0;

    /** Public, since the compiled example is of another loader and calls it. */
    public static void due(String call, Object given, Object wanted) {
        asked++;
        if (!wanted.equals(given)) {
            tell(call + " answered " + given + ", README.md names " + wanted);
        }
    }

    private static void tell(String what) {
        wrong++;
        System.out.println(what);
    }

    private static List<String> exampleLines(List<String> readme) {
        List<String> lines = new ArrayList<>();
        boolean inside = false;
        for (String line : readme) {
            if (line.startsWith("```")) {
                inside = line.equals("```java");
            } else if (inside && !line.isBlank()) {
                lines.add(line.strip());
            }
        }
        return lines;
    }

    private static String quoted(String text) {
        return '"' + text.replace("\\", "\\\\").replace("\"", "\\\"") + '"';
    }

    private static String program(List<String> lines) {
        StringBuilder text = new StringBuilder("public final class ReadmeExample {\n  public static void run() {\n");
        for (String line : lines) {
            Matcher thrown = THROWS.matcher(line);
            Matcher answer = ANSWERS.matcher(line);
            if (MADE.matcher(line).matches() || SILENT.matcher(line).matches()) {
                text.append(line).append('\n');
            } else if (thrown.matches()) {
                text.append("{ String got = \"nothing thrown\"; try { ").append(thrown.group(1)).append("; } ");
                text.append("catch (RuntimeException e) { got = e.getClass().getSimpleName(); } ");
                text.append("SymbolLinkerReadme.due(").append(quoted(thrown.group(1))).append(", got, ");
                text.append(quoted(thrown.group(2))).append("); }\n");
            } else if (answer.matches()) {
                text.append("SymbolLinkerReadme.due(").append(quoted(answer.group(1))).append(", ");
                text.append(answer.group(1)).append(", ").append(answer.group(2)).append(");\n");
            } else {
                tell("a line of the example names no answer: " + line);
            }
        }
        return text.append("  }\n}\n").toString();
    }

    private static void runExample(String program) throws IOException, ReflectiveOperationException {
        Path room = Files.createTempDirectory("readme");
        Path source = room.resolve("ReadmeExample.java");
        Path compiled = room.resolve("ReadmeExample.class");
        Files.writeString(source, program);
        String seen = System.getProperty("java.class.path");
        int failed = ToolProvider.getSystemJavaCompiler()
            .run(null, null, null, "-cp", seen, "-d", room.toString(), source.toString());
        if (failed != 0) {
            tell("the example does not compile:\n" + program);
        } else {
            try (URLClassLoader loader = new URLClassLoader(new URL[] {room.toUri().toURL()})) {
                loader.loadClass("ReadmeExample").getMethod("run").invoke(null);
            }
        }
        Files.deleteIfExists(compiled);
        Files.deleteIfExists(source);
        Files.deleteIfExists(room);
    }

    private static void namesEveryCall(String readme, List<String> lines) {
        for (Method method : SymbolLinker.class.getDeclaredMethods()) {
            if (!Modifier.isPublic(method.getModifiers())) {
                continue;
            }
            String call = method.getName() + "(";
            if (!readme.contains("`" + call)) {
                tell("README.md does not tell of " + call + ")");
            }
            if (lines.stream().noneMatch(line -> line.startsWith("x." + call))) {
                tell("the example does not use " + call + ")");
            }
            for (Class<?> thrown : method.getExceptionTypes()) {
                if (!readme.contains(thrown.getSimpleName())) {
                    tell("README.md does not tell that " + call + ") throws " + thrown.getSimpleName());
                }
            }
        }
    }

    public static void main(String[] args) throws IOException, ReflectiveOperationException {
        List<String> readme = Files.readAllLines(README);
        List<String> lines = exampleLines(readme);
        namesEveryCall(String.join("\n", readme), lines);
        runExample(program(lines));
        if (asked == 0) {
            tell("README.md has no example with answers");
        }
        System.out.println(wrong == 0 ? asked + " answers of README.md are as due" : wrong + " things are not as due");
        if (wrong != 0) {
            System.exit(1);
        }
    }
}
