import java.io.IOException;
import java.lang.invoke.MethodHandles;
import java.lang.reflect.Method;
import java.nio.file.Files;
import java.nio.file.Path;
import java.util.ArrayList;
import java.util.Collections;
import java.util.List;
import java.util.TreeSet;
import java.util.regex.Matcher;
import java.util.regex.Pattern;
import javax.tools.ToolProvider;

/** What README.md says: its calls are compiled and run, one block behind the other, and answer what it tells. */
public final class ReadmeTest {
    private static final Pattern ANSWERED = Pattern.compile(
            "(?:\\w+ (\\w+) = )?(.*);\\s+// (throws (\\w+)|'.'|\"[^\"]*\"|-?[0-9.]+|true|false)(: .*)?");

    public static void main(String[] args) throws Exception {
        String readme = Files.readString(Path.of("README.md"));
        List<String> lines = codeOf(readme);
        runCalls(lines);
        everyMethodIsShown(lines);
        everyTestIsNamed(readme);
        everyPathIsThere(readme);
        Check.end("ReadmeTest");
    }

    private static List<String> codeOf(String readme) {
        List<String> lines = new ArrayList<>();
        Matcher block = Pattern.compile("(?s)```java\n(.*?)```").matcher(readme);
        while (block.find()) {
            Collections.addAll(lines, block.group(1).split("\n"));
        }
        return lines;
    }

    private static void runCalls(List<String> lines) throws Exception {
        StringBuilder program = new StringBuilder("final class ReadmeCalls {\n static void run() {\n");
        int answers = 0;
        for (String line : lines) {
            Matcher answered = ANSWERED.matcher(line);
            if (answered.matches()) {
                program.append(checked(line, answered));
                answers++;
            } else {
                boolean isAsked = line.startsWith("solver.") || line.contains("//");
                Check.same("a line without an answer: " + line, isAsked, false);
                program.append(line).append('\n');
            }
        }
        Check.same("calls with answers", answers > 32, true);
        run(program.append(" }\n}\n").toString());
    }

    /** A line as it stands, or the same call in a check of what it answers. */
    private static String checked(String line, Matcher answered) {
        String name = answered.group(1);
        String call = answered.group(2);
        String due = answered.group(4) != null ? answered.group(4) : answered.group(3).replaceAll("^['\"]|['\"]$", "");
        String asked = name != null ? "String.valueOf(" + name + ")"
                : answered.group(4) != null ? "Shelf.answer(() -> " + call + ")" : "String.valueOf(" + call + ")";
        return (name != null ? line + "\n" : "") + "Check.same(" + quoted("README: " + call) + ", " + asked + ", " + quoted(due) + ");\n";
    }

    private static String quoted(String text) {
        return '"' + text.replace("\\", "\\\\").replace("\"", "\\\"") + '"';
    }

    private static void run(String program) throws Exception {
        Path place = Files.createTempDirectory("readme");
        Path source = place.resolve("ReadmeCalls.java");
        Path made = place.resolve("ReadmeCalls.class");
        try {
            Files.writeString(source, program);
            int code = ToolProvider.getSystemJavaCompiler().run(null, null, null, "-proc:none", "-cp",
                    System.getProperty("java.class.path"), "-d", place.toString(), source.toString());
            Check.same("README's calls can be compiled", code, 0);
            if (code == 0) {
                Class<?> calls = MethodHandles.lookup().defineClass(Files.readAllBytes(made));
                Method run = calls.getDeclaredMethod("run");
                run.invoke(null);
            }
        } finally {
            Files.deleteIfExists(made);
            Files.deleteIfExists(source);
            Files.deleteIfExists(place);
        }
    }

    private static void everyMethodIsShown(List<String> lines) {
        String code = String.join("\n", lines);
        for (Method method : Thermographica.class.getMethods()) {
            if (method.getDeclaringClass() == Thermographica.class) {
                String call = "solver." + method.getName() + "(";
                Check.same("README shows " + method.getName(), code.contains(call), true);
            }
        }
    }

    private static void everyTestIsNamed(String readme) throws IOException {
        TreeSet<String> there = new TreeSet<>();
        try (var files = Files.list(Path.of("src/test/java"))) {
            files.forEach(file -> there.add(file.getFileName().toString().replace(".java", "")));
        }
        TreeSet<String> named = new TreeSet<>();
        Matcher name = Pattern.compile("`([A-Z]\\w+)`").matcher(readme);
        while (name.find()) {
            named.add(name.group(1));
        }
        Check.same("the tests that README names", String.join(" ", named), String.join(" ", there));
    }

    private static void everyPathIsThere(String readme) {
        Matcher path = Pattern.compile("(?m)`([.\\w]+/[./\\w]+)`|^    (\\.ci/\\w+)$").matcher(readme);
        int paths = 0;
        while (path.find()) {
            String named = path.group(1) != null ? path.group(1) : path.group(2);
            Check.same("README names " + named, Files.exists(Path.of(named)), true);
            paths++;
        }
        Check.same("paths", paths > 3, true);
        Check.same(".ci/run can be run", Files.isExecutable(Path.of(".ci/run")), true);
    }
}
