import java.io.File;
import java.io.IOException;
import java.nio.charset.StandardCharsets;
import java.nio.file.Files;
import java.nio.file.Path;
import java.util.regex.Matcher;
import java.util.regex.Pattern;
import java.util.stream.Stream;
import javax.tools.ToolProvider;

/** The examples of README.md: one program of all their lines, in which each call answers what stands behind it. */
public final class ReadmeTest {
    private static final Path README = Path.of("README.md");
    private static final Pattern BLOCK = Pattern.compile("(?s)```java\n(.*?)```");
    private static final Pattern MAKING = Pattern.compile("CindermapStore store = new CindermapStore\\(\\);");
    /** A call, what it answers or throws, and why. */
    private static final Pattern CALL =
        Pattern.compile("(?:int (\\w+) = )?(store\\.\\w+\\(.*\\)); *// (?:throws (\\w+)|([^:]+))(?:: .*)?");

    public static void main(String[] args) throws IOException, InterruptedException {
        run("import java.util.NoSuchElementException;\npublic final class ReadmeProgram {\n    public static void main(String[] args) {\n"
            + translated(Files.readString(README, StandardCharsets.UTF_8)) + "Check.end();\n    }\n}\n");
        Check.end();
    }

    private static String translated(String readme) {
        StringBuilder program = new StringBuilder();
        int answers = 0;
        Matcher block = BLOCK.matcher(readme);
        while (block.find()) {
            for (String line : block.group(1).split("\n")) {
                Matcher call = CALL.matcher(line);
                if (call.matches()) {
                    program.append(checked(call)).append('\n');
                    answers++;
                } else {
                    Check.is("the line \"" + line + "\" without an answer", MAKING.matcher(line).matches(), true);
                    program.append(line).append('\n');
                }
            }
        }
        Check.is("whether README.md tells answers", answers > 0, true);
        return program.toString();
    }

    private static String checked(Matcher call) {
        String name = call.group(1);
        String made = call.group(2);
        String told = "\"" + made.replace("\"", "\\\"") + "\"";
        if (call.group(3) != null) {
            return "Check.fails(" + told + ", " + call.group(3) + ".class, store, () -> " + made + ");";
        }
        String kept = name == null ? "" : "int " + name + " = " + made + "; ";
        return kept + "Check.is(" + told + ", " + (name == null ? made : name) + ", " + call.group(4) + ");";
    }

    private static void run(String program) throws IOException, InterruptedException {
        Path folder = Files.createTempDirectory("readme");
        try {
            Path source = folder.resolve("ReadmeProgram.java");
            Files.writeString(source, program, StandardCharsets.UTF_8);
            String classes = folder + File.pathSeparator + System.getProperty("java.class.path");
            Check.is("javac of the examples", ToolProvider.getSystemJavaCompiler()
                .run(null, null, null, "-cp", classes, "-d", folder.toString(), source.toString()), 0);
            String java = Path.of(System.getProperty("java.home"), "bin", "java").toString();
            Process running = new ProcessBuilder(java, "-cp", classes, "ReadmeProgram").inheritIO().start();
            Check.is("the end of the examples", running.waitFor(), 0);
        } finally {
            remove(folder);
        }
    }

    private static void remove(Path folder) throws IOException {
        try (Stream<Path> files = Files.list(folder)) {
            for (Path file : files.toList()) {
                Files.delete(file);
            }
        }
        Files.delete(folder);
    }
}
