import java.io.IOException;
import java.lang.reflect.Method;
import java.lang.reflect.Modifier;
import java.net.URL;
import java.net.URLClassLoader;
import java.nio.file.Files;
import java.nio.file.Path;
import java.util.ArrayList;
import java.util.Comparator;
import java.util.List;
import java.util.regex.Matcher;
import java.util.regex.Pattern;
import java.util.stream.Stream;
import javax.tools.JavaCompiler;
import javax.tools.ToolProvider;

/** The calls that README.md shows are taken from it, compiled and made: each answers as README.md says there. */
public final class ReadmeTest {
    private static final Checks checks = new Checks();
    private static final Pattern BLOCK = Pattern.compile("(?m)^```java\n((?:.*\n)*?)```$");
    private static final Pattern NEW_OBJECT = Pattern.compile("BumpNotes \\w+ = new BumpNotes\\(\\);");
    private static final Pattern CALL =
        Pattern.compile("(?:int (\\w+) = )?(\\w[^;]*\\));\\s+// (-?\\d+|true|false|NONE)(?:: .*)?");

    public static void main(String[] args) throws IOException, ReflectiveOperationException {
        String readme = Files.readString(Path.of("README.md"));
        new ReadmeTest().check(readme);
        everyMethodIsShown(readme);
        everyTestIsNamed(readme);
        checks.end();
    }

    private final StringBuilder helpers = new StringBuilder();
    private final StringBuilder statements = new StringBuilder();
    private final List<String> shown = new ArrayList<>();
    private final List<String> wants = new ArrayList<>();

    private void check(String readme) throws IOException, ReflectiveOperationException {
        int fences = 0;
        Matcher blocks = BLOCK.matcher(readme);
        while (blocks.find()) {
            takeBlock(blocks.group(1));
            fences += 2;
        }
        checks.due("README.md shows calls", shown.isEmpty(), false);
        checks.due("README.md's blocks are all looked at", fences, readme.split("```", -1).length - 1);
        List<?> answers = answers();
        checks.due("how many answers", answers.size(), wants.size());
        for (int i = 0; i < Math.min(answers.size(), wants.size()); i++) {
            checks.due("README.md: " + shown.get(i), String.valueOf(answers.get(i)), wants.get(i));
        }
    }

    private void takeBlock(String block) {
        if (block.startsWith("static ")) {
            helpers.append(block);
            return;
        }
        for (String line : block.split("\n")) {
            takeLine(line);
        }
    }

    private void takeLine(String line) {
        if (NEW_OBJECT.matcher(line).matches()) {
            statements.append(line).append('\n');
            return;
        }
        Matcher call = CALL.matcher(line);
        // A call without its answer would be one that nothing looks at.
        checks.due("README.md tells the answer: " + line, call.matches(), true);
        if (!call.matches()) {
            return;
        }
        String name = call.group(1);
        if (name != null) {
            statements.append("int ").append(name).append(" = ").append(call.group(2)).append(";\n");
        }
        statements.append("answers.add(").append(name == null ? call.group(2) : name).append(");\n");
        shown.add(call.group(2));
        wants.add(call.group(3).equals("NONE") ? String.valueOf(BumpNotes.NONE) : call.group(3));
    }

    private List<?> answers() throws IOException, ReflectiveOperationException {
        Path directory = Files.createTempDirectory("readme");
        try {
            return answersBy(directory);
        } finally {
            try (Stream<Path> all = Files.walk(directory)) {
                all.sorted(Comparator.reverseOrder()).forEach(one -> one.toFile().delete());
            }
        }
    }

    private List<?> answersBy(Path directory) throws IOException, ReflectiveOperationException {
        Path source = directory.resolve("ReadmeCalls.java");
        Files.writeString(source, "public final class ReadmeCalls {\n" + helpers
            + "public static java.util.List<Object> answers() {\n"
            + "java.util.List<Object> answers = new java.util.ArrayList<>();\n" + statements
            + "return answers;\n}\n}\n");
        JavaCompiler compiler = ToolProvider.getSystemJavaCompiler();
        int exit = compiler.run(null, null, null, "--release", "17", "-encoding", "UTF-8",
            "-cp", System.getProperty("java.class.path"), "-d", directory.toString(), source.toString());
        checks.due("README.md's calls compile", exit, 0);
        if (exit != 0) {
            return List.of();
        }
        try (URLClassLoader loader = new URLClassLoader(new URL[] {directory.toUri().toURL()})) {
            return (List<?>) loader.loadClass("ReadmeCalls").getMethod("answers").invoke(null);
        }
    }

    private static void everyMethodIsShown(String readme) {
        for (Method method : BumpNotes.class.getDeclaredMethods()) {
            if (Modifier.isPublic(method.getModifiers())) {
                String call = "notes." + method.getName() + "(";
                checks.due("README.md shows " + call, readme.contains(call), true);
            }
        }
    }

    private static void everyTestIsNamed(String readme) throws IOException {
        checks.due("README.md names .ci/run", readme.contains(".ci/run"), true);
        try (Stream<Path> files = Files.list(Path.of("src/test/java"))) {
            files.map(file -> file.getFileName().toString()).filter(name -> name.endsWith("Test.java"))
                .map(name -> name.substring(0, name.length() - ".java".length()))
                .forEach(name -> checks.due("README.md names " + name, readme.contains("`" + name + "`"), true));
        }
    }
}
