import java.io.IOException;
import java.lang.invoke.MethodHandles;
import java.lang.reflect.Method;
import java.nio.file.Files;
import java.nio.file.Path;
import java.nio.file.Paths;
import java.util.List;
import java.util.regex.Matcher;
import java.util.regex.Pattern;
import javax.tools.ToolProvider;

/** The blocks of Java in README.md are one program: each call with an answer behind it must give that answer. */
public final class ReadmeTest {
    private static final int LEAST_EXAMPLES = 80;
    private static final Pattern ANSWERED = Pattern.compile("(p\\..*\\));\\s*// (-?\\d+|throws [A-Za-z]+)\\b.*");

    private static int examples = 0;

    public static void main(String[] args) throws Exception {
        String program = programOf(Files.readAllLines(Paths.get("README.md")));
        run(program);
        Check.due("README.md has " + LEAST_EXAMPLES + " examples or more", 1, examples >= LEAST_EXAMPLES ? 1 : 0);
        Check.finish("ReadmeTest");
    }

    private static String programOf(List<String> lines) {
        StringBuilder body = new StringBuilder("final class ReadmeProgram {\n  static void run() {\n");
        boolean inBlock = false;
        for (String line : lines) {
            if (line.startsWith("```")) {
                inBlock = line.equals("```java");
            } else if (inBlock) {
                body.append(statementOf(line)).append('\n');
            }
        }
        return body.append("  }\n}\n").toString();
    }

    private static String statementOf(String line) {
        Matcher matcher = ANSWERED.matcher(line);
        if (!matcher.matches()) {
            return line;
        }
        examples++;
        String call = matcher.group(1);
        String want = matcher.group(2).replace("throws ", "throws.");
        return "Check.due(\"README: " + call + "\", \"" + want + "\", Check.outcome(() -> " + call + "));";
    }

    private static void run(String program) throws Exception {
        Path dir = Files.createTempDirectory("readme");
        Path source = dir.resolve("ReadmeProgram.java");
        Path compiled = dir.resolve("ReadmeProgram.class");
        try {
            Files.writeString(source, program);
            String classes = System.getProperty("java.class.path");
            int failed = ToolProvider.getSystemJavaCompiler().run(null, null, null,
                    "-cp", classes, "-d", dir.toString(), source.toString());
            Check.due("the blocks of README.md compile", 0, failed);
            if (failed == 0) {
                runClass(compiled);
            }
        } finally {
            delete(source, compiled, dir);
        }
    }

    /** Check is not public, so the program must be a class of the same loader as it is. */
    private static void runClass(Path compiled) throws Exception {
        Class<?> program = MethodHandles.lookup().defineClass(Files.readAllBytes(compiled));
        Method run = program.getDeclaredMethod("run");
        run.setAccessible(true);
        run.invoke(null);
    }

    private static void delete(Path... paths) throws IOException {
        for (Path path : paths) {
            Files.deleteIfExists(path);
        }
    }
}
