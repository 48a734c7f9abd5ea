import java.net.URL;
import java.net.URLClassLoader;
import java.nio.file.Files;
import java.nio.file.Path;
import java.util.ArrayList;
import java.util.List;
import java.util.regex.Matcher;
import java.util.regex.Pattern;
import javax.tools.JavaCompiler;
import javax.tools.ToolProvider;

/** What README.md shows holds: its example is compiled as it stands, and each answer behind a call compared. */
public final class ReadmeTest {
    private static final Pattern EXAMPLE = Pattern.compile("```java\n(.*?)```", Pattern.DOTALL);
    private static final Pattern CALL =
        Pattern.compile("(int \\w+ = )?(night\\.\\w+\\(.*?\\));\\s+// (-?\\d+|[A-Z_]+): .*");
    private static final Pattern METHOD = Pattern.compile("public int (\\w+)\\(");
    private static final Due due = new Due();

    private static final List<String> calls = new ArrayList<>();
    private static final StringBuilder code = new StringBuilder();
    private static final StringBuilder told = new StringBuilder();

    public static void main(String[] args) throws Exception {
        Path program = Path.of(args[0]).toAbsolutePath();
        Path root = program.getParent().getParent().getParent().getParent();
        String readme = Files.readString(root.resolve("README.md"));
        readExample(readme);
        long[][] answers = runExample();
        for (int i = 0; i < calls.size(); i++) {
            due.is("README.md: " + calls.get(i), answers[0][i], answers[1][i]);
        }
        namesEveryMethod(readme, Files.readString(program));
        due.is("README.md names .ci/run", readme.contains("```sh\n.ci/run\n```") ? 1 : 0, 1);
        due.is(".ci/run can be run", Files.isExecutable(root.resolve(".ci/run")) ? 1 : 0, 1);
        due.end();
    }

    /** Each line is a call with its answer, but for the first one, which makes the object. */
    private static void readExample(String readme) {
        Matcher example = EXAMPLE.matcher(readme);
        due.is("README.md has an example", example.find() ? 1 : 0, 1);
        String[] lines = example.group(1).split("\n");
        due.same("README.md: how an object is made", lines[0], "CopyPlates night = new CopyPlates();");
        code.append(lines[0]).append('\n');
        for (int i = 1; i < lines.length; i++) {
            if (!lines[i].isBlank()) {
                readCall(lines[i]);
            }
        }
        due.is("README.md has an example: no other one", example.find() ? 1 : 0, 0);
    }

    private static void readCall(String line) {
        Matcher call = CALL.matcher(line);
        boolean isCall = call.matches();
        due.is("README.md: a call and its answer: " + line, isCall ? 1 : 0, 1);
        if (!isCall) {
            return;
        }
        String answer = "answer" + calls.size();
        calls.add(call.group(2));
        if (call.group(1) == null) {
            code.append("int ").append(answer).append(" = ").append(call.group(2)).append(";\n");
        } else {
            code.append(line).append("\nint ").append(answer).append(" = ").append(call.group(1).split(" ")[1])
                .append(";\n");
        }
        boolean isName = Character.isLetter(call.group(3).charAt(0));
        told.append(isName ? "CopyPlates." : "").append(call.group(3)).append(", ");
    }

    /** The answers of the program, and those that README.md tells. */
    private static long[][] runExample() throws Exception {
        StringBuilder got = new StringBuilder();
        for (int i = 0; i < calls.size(); i++) {
            got.append("answer").append(i).append(", ");
        }
        String source = "public final class Example {\npublic static long[][] answers() {\n" + code
            + "return new long[][] {{" + got + "}, {" + told + "}};\n}\n}\n";
        Path directory = Files.createTempDirectory("readme");
        Path file = Files.writeString(directory.resolve("Example.java"), source);
        Path compiled = directory.resolve("Example.class");
        JavaCompiler compiler = ToolProvider.getSystemJavaCompiler();
        int failed = compiler.run(null, null, null, "-cp", System.getProperty("java.class.path"), "-d",
            directory.toString(), file.toString());
        due.is("README.md: its example is compiled", failed, 0);
        try (URLClassLoader loader = new URLClassLoader(new URL[] {directory.toUri().toURL()})) {
            return (long[][]) loader.loadClass("Example").getMethod("answers").invoke(null);
        } finally {
            Files.deleteIfExists(file);
            Files.deleteIfExists(compiled);
            Files.delete(directory);
        }
    }

    private static void namesEveryMethod(String readme, String program) {
        Matcher method = METHOD.matcher(program);
        while (method.find()) {
            String name = "`" + method.group(1) + "`";
            due.is("README.md names " + name, readme.contains(name) ? 1 : 0, 1);
        }
    }
}
