import java.io.IOException;
import java.net.URI;
import java.net.URL;
import java.net.URLClassLoader;
import java.nio.file.Files;
import java.nio.file.Path;
import java.util.ArrayList;
import java.util.List;
import java.util.regex.Matcher;
import java.util.regex.Pattern;
import javax.tools.ToolProvider;

/** The calls that README.md shows: its code is compiled as it stands, each answer asked for. */
public final class ReadmeTest {
    private static final Checks CHECKS = new Checks("ReadmeTest");
    private static final Pattern BLOCK = Pattern.compile("(?s)```java\n(.*?)```");
    private static final Pattern CALL = Pattern.compile("(x\\.\\w+\\(.*?\\)); *// (-?\\w+)\\b.*");

    public static void main(String[] args) throws IOException, ReflectiveOperationException {
        List<String> blocks = new ArrayList<>();
        Matcher matcher = BLOCK.matcher(Files.readString(Path.of("README.md")));
        while (matcher.find()) {
            blocks.add(matcher.group(1));
        }
        CHECKS.due("blocks of code", blocks.size(), 2);
        checkCalls(blocks.get(0), blocks.get(1));
        CHECKS.finish();
    }

    private static void checkCalls(String helper, String use)
            throws IOException, ReflectiveOperationException {
        List<String> calls = new ArrayList<>();
        List<String> due = new ArrayList<>();
        StringBuilder body = new StringBuilder();
        for (String line : use.split("\n")) {
            Matcher matcher = CALL.matcher(line);
            if (matcher.matches()) {
                calls.add(matcher.group(1));
                due.add(matcher.group(2));
                body.append("answers.add(\"\" + ").append(matcher.group(1)).append(");\n");
            } else {
                CHECKS.due("an answer behind " + line, line.startsWith("x."), false);
                body.append(line).append('\n');
            }
        }
        List<?> answers = run("public final class Readme {\n" + helper
                + "public static java.util.List<String> answers() {\n"
                + "java.util.List<String> answers = new java.util.ArrayList<>();\n"
                + body + "return answers;\n}\n}\n");
        for (int k = 0; k < calls.size(); k++) {
            CHECKS.dueText(calls.get(k), (String) answers.get(k), due.get(k));
        }
    }

    private static List<?> run(String source) throws IOException, ReflectiveOperationException {
        Path folder = Files.createTempDirectory("readme");
        Path file = folder.resolve("Readme.java");
        Path compiled = folder.resolve("Readme.class");
        try {
            Files.writeString(file, source);
            int code = ToolProvider.getSystemJavaCompiler().run(null, null, null,
                    "-cp", System.getProperty("java.class.path"), file.toString());
            CHECKS.due("README.md's code compiles", code, 0);
            URI home = folder.toUri();
            try (URLClassLoader loader = new URLClassLoader(new URL[] {home.toURL()})) {
                return (List<?>) loader.loadClass("Readme").getMethod("answers").invoke(null);
            }
        } finally {
            Files.deleteIfExists(compiled);
            Files.deleteIfExists(file);
            Files.deleteIfExists(folder);
        }
    }
}
