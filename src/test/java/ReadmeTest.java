import java.io.IOException;
import java.net.URL;
import java.net.URLClassLoader;
import java.nio.file.Files;
import java.nio.file.Path;
import java.util.regex.Matcher;
import java.util.regex.Pattern;
import javax.tools.ToolProvider;

/** Each block of code in README.md is compiled and run; a call must answer what stands behind "// =" in its line. */
public final class ReadmeTest {
    private static final Pattern BLOCK = Pattern.compile("(?s)```java\n(.*?)```");
    private static final Pattern LINE = Pattern.compile("(?:(int \\w+) = )?(x\\..*?);\\s*// = (-?\\w+)\\b.*");

    public static void main(String[] args) throws IOException, ReflectiveOperationException {
        Matcher blocks = BLOCK.matcher(Files.readString(Path.of("README.md")));
        int many = 0;
        while (blocks.find()) {
            run("ReadmeBlock" + many, blocks.group(1));
            many++;
        }
        Check.holds("blocks of code are seen: " + many, many >= 2);
        Check.close("ReadmeTest");
    }

    private static void run(String name, String block) throws IOException, ReflectiveOperationException {
        StringBuilder code = new StringBuilder("public class " + name + " { public static String run() {\n");
        code.append("StringBuilder told = new StringBuilder();\n");
        StringBuilder due = new StringBuilder();
        for (String line : block.split("\n")) {
            Matcher m = LINE.matcher(line);
            if (!m.matches()) {
                code.append(line).append('\n');
                Check.holds("an answer is told: " + line, !line.contains("//"));
            } else if (m.group(1) == null) {
                code.append("told.append(").append(m.group(2)).append(").append(' ');\n");
                due.append(m.group(3)).append(' ');
            } else {
                code.append(m.group(1)).append(" = ").append(m.group(2)).append(";\n");
                code.append("told.append(").append(m.group(1).substring(4)).append(").append(' ');\n");
                due.append(m.group(3)).append(' ');
            }
        }
        String got = answers(name, code.append("return told.toString(); } }\n").toString());
        Check.holds(name + " answers " + got + ", due is " + due, got.contentEquals(due));
        Check.holds(name + " has answers", due.length() > 20);
    }

    private static String answers(String name, String code) throws IOException, ReflectiveOperationException {
        Path where = Files.createTempDirectory("readme");
        Path file = where.resolve(name + ".java");
        try {
            Files.writeString(file, code);
            int failed = ToolProvider.getSystemJavaCompiler().run(null, null, null, "-proc:none", "-cp",
                    System.getProperty("java.class.path"), "-d", where.toString(), file.toString());
            Check.due(name + " compiles", failed, 0);
            if (failed != 0) {
                return "";
            }
            try (URLClassLoader loader = new URLClassLoader(new URL[] {where.toUri().toURL()})) {
                return (String) loader.loadClass(name).getMethod("run").invoke(null);
            }
        } finally {
            Files.deleteIfExists(file);
            Files.deleteIfExists(where.resolve(name + ".class"));
            Files.deleteIfExists(where);
        }
    }
}
