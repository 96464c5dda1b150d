import java.io.IOException;
import java.net.URL;
import java.net.URLClassLoader;
import java.nio.file.Files;
import java.nio.file.Path;
import java.util.regex.Matcher;
import java.util.regex.Pattern;
import javax.tools.ToolProvider;

/** README.md's example compiles as it stands there, and every answer is the one that its line tells. */
public final class ReadmeTest {
    private static final Checks CHECKS = new Checks();
    private static final Pattern EXAMPLE = Pattern.compile("(?s)```java\n(.*?)```");
    private static final Pattern ANSWER = Pattern.compile("(?m)^(?:int|boolean) (\\w+) = .*; *// (-?\\w+).*$");

    public static void main(String[] args) throws IOException, ReflectiveOperationException {
        Matcher example = EXAMPLE.matcher(Files.readString(Path.of("README.md")));
        CHECKS.yes("there is an example", example.find());
        String lines = example.group(1);
        CHECKS.no("it tells no answer", toldAnswers(lines).isEmpty());
        CHECKS.same("the answers", answers(lines), toldAnswers(lines));
        CHECKS.end();
    }

    private static String toldAnswers(String lines) {
        StringBuilder told = new StringBuilder();
        Matcher answer = ANSWER.matcher(lines);
        while (answer.find()) {
            told.append(answer.group(1)).append(" = ").append(answer.group(2)).append('\n');
        }
        return told.toString();
    }

    private static String answers(String lines) throws IOException, ReflectiveOperationException {
        Path folder = Files.createTempDirectory("readme");
        Path source = folder.resolve("Example.java");
        Path compiled = folder.resolve("Example.class");
        Files.writeString(source, "public final class Example { public static String answers() {\n"
                + "StringBuilder all = new StringBuilder();\n"
                + ANSWER.matcher(lines).replaceAll("$0\nall.append(\"$1 = \").append($1).append('\\\\n');")
                + "return all.toString(); } }\n");
        try {
            int code = ToolProvider.getSystemJavaCompiler().run(null, null, null, "-cp",
                    System.getProperty("java.class.path"), "-d", folder.toString(), source.toString());
            return code == 0 ? run(folder) : "nothing, as the example does not compile";
        } finally {
            Files.deleteIfExists(compiled);
            Files.delete(source);
            Files.delete(folder);
        }
    }

    private static String run(Path folder) throws IOException, ReflectiveOperationException {
        try (URLClassLoader loader = new URLClassLoader(new URL[] {folder.toUri().toURL()})) {
            return (String) loader.loadClass("Example").getMethod("answers").invoke(null);
        }
    }
}
