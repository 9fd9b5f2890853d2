import java.io.IOException;
import java.net.URL;
import java.net.URLClassLoader;
import java.nio.file.Files;
import java.nio.file.Path;
import java.util.regex.Matcher;
import java.util.regex.Pattern;
import javax.tools.ToolProvider;

/** Runs the Java lines of README.md; a line whose remark begins with a value must answer it. */
public final class ReadmeExample extends Checks {
    private static final Pattern BLOCK = Pattern.compile("(?s)```java\n(.*?)```");
    private static final Pattern ANSWERED =
        Pattern.compile("^(?:int (\\w+) = )?(.*?);\\s*// (-?\\d+|0x[0-9A-F]+L|SixNet\\.BAD)(?::.*)?$");
    private static final int LEAST_ANSWERS = 20;

    /** Called by the class that is made of the lines. */
    public static void answers(String call, long got, long want) {
        due(call, got, want);
    }

    private static String program(String lines) {
        StringBuilder made = new StringBuilder("public final class Lines {\n  public static void run() {\n");
        int answered = 0;
        for (String line : lines.split("\n")) {
            Matcher m = ANSWERED.matcher(line);
            if (!m.matches()) {
                made.append(line).append("\n");
                continue;
            }
            String call = m.group(2);
            String name = m.group(1) == null ? "answer" + answered : m.group(1);
            String kind = m.group(1) == null ? "long" : "int";
            made.append(kind + " " + name + " = " + call + ";\n");
            made.append("ReadmeExample.answers(\"" + call + "\", " + name + ", " + m.group(3) + ");\n");
            answered++;
        }
        due("too few answers in README.md", answered < LEAST_ANSWERS ? answered : 0, 0);
        return made.append("  }\n}\n").toString();
    }

    private static void run(String program) throws IOException, ReflectiveOperationException {
        Path made = Files.createTempDirectory("readme");
        Path source = Files.writeString(made.resolve("Lines.java"), program);
        String known = System.getProperty("java.class.path");
        int compiled = ToolProvider.getSystemJavaCompiler().run(null, null, null, "-proc:none", "-cp", known, "-d",
            made.toString(), source.toString());
        due("README.md's lines are Java", compiled, 0);
        if (compiled == 0) {
            try (URLClassLoader loader = new URLClassLoader(new URL[] {made.toUri().toURL()})) {
                loader.loadClass("Lines").getMethod("run").invoke(null);
            }
        }
        Files.deleteIfExists(made.resolve("Lines.class"));
        Files.deleteIfExists(source);
        Files.deleteIfExists(made);
    }

    public static void main(String[] args) throws IOException, ReflectiveOperationException {
        says("README.md says how to use the class");
        Path source = Path.of(System.getProperty("sixnet.source", "src/main/java/SixNet.java")).toAbsolutePath();
        Matcher block = BLOCK.matcher(Files.readString(source.resolve("../../../../README.md").normalize()));
        due("README.md has Java lines", block.find() ? 1 : 0, 1);
        run(program(block.group(1)));
        end();
    }
}
