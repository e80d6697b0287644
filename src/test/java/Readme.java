import java.io.IOException;
import java.net.URL;
import java.net.URLClassLoader;
import java.nio.file.Files;
import java.nio.file.Path;
import java.util.regex.Matcher;
import java.util.regex.Pattern;
import javax.tools.JavaCompiler;
import javax.tools.ToolProvider;

/** The examples of README.md, compiled as they stand: each call answers the number behind it. */
public final class Readme extends Bench {
    private static final Pattern BLOCK = Pattern.compile("(?ms)^```java\n(.*?)^```$");
    private static final Pattern TOLD = Pattern.compile("((\\w+)\\.(\\w+)\\([^;]*\\));\\s*// (-?\\d+)\\b.*");
    private static int told = 0;

    /** What an example's call answered, held against the number behind it. */
    public static int told(String line, int got, int want) {
        told++;
        due(line, got, want);
        return got;
    }

    private static String statements(String block) {
        StringBuilder statements = new StringBuilder();
        for (String line : block.split("\n")) {
            Matcher call = TOLD.matcher(line);
            String quoted = "\"" + line.replace("\\", "\\\\").replace("\"", "\\\"") + "\"";
            statements.append(call.find()
                    ? line.substring(0, call.start()) + "Readme.told(" + quoted + ", " + call.group(1) + ", " + call.group(4) + ");"
                    : line).append('\n');
        }
        return statements.toString();
    }

    /** A block of functions stands in the class, the others are done one behind the other. */
    private static String program(String readme) {
        StringBuilder functions = new StringBuilder();
        StringBuilder statements = new StringBuilder();
        Matcher block = BLOCK.matcher(readme);
        while (block.find()) {
            if (block.group(1).startsWith("static ")) {
                functions.append(block.group(1));
            } else {
                statements.append(statements(block.group(1)));
            }
        }
        return "public final class Examples {\n public static void run() {\n" + statements + " }\n" + functions + "}\n";
    }

    public static void main(String[] args) throws IOException, ReflectiveOperationException {
        at("README.md");
        JavaCompiler compiler = ToolProvider.getSystemJavaCompiler();
        if (compiler == null) {
            System.out.println("this java has no compiler in it: the examples of README.md are not looked at");
            return;
        }
        Path place = Files.createTempDirectory("readme");
        Path program = place.resolve("Examples.java");
        Files.writeString(program, program(Files.readString(Path.of("README.md"))));
        int failed = compiler.run(null, null, null,
                "-encoding", "UTF-8", "-cp", System.getProperty("java.class.path"), "-d", place.toString(), program.toString());
        due("compiling the examples", failed, 0);
        if (failed == 0) {
            try (URLClassLoader loader = new URLClassLoader(new URL[] {place.toUri().toURL()}, Readme.class.getClassLoader())) {
                loader.loadClass("Examples").getMethod("run").invoke(null);
            }
            due("whether the examples tell answers", told > 0 ? 1 : 0, 1);
        }
        for (String file : new String[] {"Examples.java", "Examples.class"}) {
            Files.deleteIfExists(place.resolve(file));
        }
        Files.delete(place);
        close("all examples of README.md answer what stands behind them");
    }
}
