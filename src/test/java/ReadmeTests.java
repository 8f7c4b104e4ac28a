import java.io.IOException;
import java.net.URL;
import java.net.URLClassLoader;
import java.nio.file.Files;
import java.nio.file.Path;
import java.util.regex.Matcher;
import java.util.regex.Pattern;
import java.util.stream.Stream;

/** README.md: its example answers what stands behind each call, and it tells how each test is run. */
public final class ReadmeTests {
    /** A call with what it is given to, if anything, and its answer; what stands behind a colon is for the reader. */
    private static final Pattern CALL =
            Pattern.compile("(?:int (\\w+) = )?(cabinet\\.\\w+\\(.*\\)); +// (throws \\w+|[^:\\s]+)(?:: .*)?");

    private static int wrong = 0;
    private static int checked = 0;

    /** Called by the program that is made of the example. */
    public static void is(String call, String due, Object got) {
        checked++;
        if (!due.equals(String.valueOf(got))) {
            wrong++;
            System.out.println("README.md: " + call + " answered " + got + ", due is " + due);
        }
    }

    private static void due(String what, boolean isSo) {
        is(what, "true", isSo);
    }

    private static String exampleIn(String readme) {
        Matcher block = Pattern.compile("(?s)```java\n(.*?)```").matcher(readme);
        return block.find() ? block.group(1) : "";
    }

    private static String quoted(String text) {
        return "\"" + text.replace("\\", "\\\\").replace("\"", "\\\"") + "\"";
    }

    private static String checkOf(Matcher call) {
        String name = quoted(call.group(2));
        String answer = call.group(3);
        if (answer.startsWith("throws ")) {
            return "try { ReadmeTests.is(" + name + ", " + quoted(answer) + ", " + call.group(2) + "); }\n"
                    + "catch (RuntimeException e) { ReadmeTests.is(" + name + ", " + quoted(answer)
                    + ", \"throws \" + e.getClass().getSimpleName()); }\n";
        }
        String value = call.group(1) == null ? call.group(2) : call.group(1);
        String given = call.group(1) == null ? "" : "int " + call.group(1) + " = " + call.group(2) + ";\n";
        return given + "ReadmeTests.is(" + name + ", " + quoted(answer) + ", " + value + ");\n";
    }

    private static String programOf(String example) {
        StringBuilder program = new StringBuilder("public final class ReadmeExample {\npublic static void run() {\n");
        for (String line : example.split("\n")) {
            Matcher call = CALL.matcher(line);
            boolean isCall = call.matches();
            due("'" + line + "' has an answer", isCall || line.isEmpty() || line.contains("new Stonecabinet()"));
            program.append(isCall ? checkOf(call) : line + "\n");
        }
        return program.append("}\n}\n").toString();
    }

    private static void runExample(String readme) throws Exception {
        Path folder = Files.createTempDirectory("readme");
        Path source = folder.resolve("ReadmeExample.java");
        Files.writeString(source, programOf(exampleIn(readme)));
        int code = new ProcessBuilder("javac", "-nowarn", "-cp", System.getProperty("java.class.path"), "-d",
                folder.toString(), source.toString()).inheritIO().start().waitFor();
        due("the example can be compiled", code == 0);
        if (code == 0) {
            try (URLClassLoader loader = new URLClassLoader(new URL[] {folder.toUri().toURL()})) {
                loader.loadClass("ReadmeExample").getMethod("run").invoke(null);
            }
        }
        Files.deleteIfExists(folder.resolve("ReadmeExample.class"));
        Files.deleteIfExists(source);
        Files.deleteIfExists(folder);
    }

    private static void lookUpTests(String readme) throws IOException {
        due("it tells that .ci/run runs the tests", readme.contains("\n    .ci/run\n"));
        try (Stream<Path> files = Files.list(Path.of("src/test/java"))) {
            for (Path file : (Iterable<Path>) files::iterator) {
                String name = file.getFileName().toString();
                due("it tells of " + name, !name.endsWith("Tests.java") || readme.contains("`src/test/java/" + name + "`"));
            }
        }
    }

    public static void main(String[] args) throws Exception {
        String readme = Files.readString(Path.of("README.md"));
        due("it has an example", exampleIn(readme).contains("cabinet."));
        runExample(readme);
        lookUpTests(readme);
        System.out.println("README.md: " + checked + " things checked, " + wrong + " wrong");
        if (wrong != 0) {
            System.exit(1);
        }
    }
}
