import java.io.ByteArrayOutputStream;
import java.io.PrintStream;
import java.net.URL;
import java.net.URLClassLoader;
import java.nio.file.Files;
import java.nio.file.Path;
import java.util.regex.Matcher;
import java.util.regex.Pattern;
import javax.tools.ToolProvider;

/** README.md: its example is compiled and run, and prints what stands beside each line; all calls are named. */
public final class ReadmeTest {
    public static void main(String[] args) throws Exception {
        Check.by("README.md");
        String readme = Files.readString(Path.of("README.md"));
        exampleAsTold(readme);
        allCallsNamed(readme);
        Check.due("how to run its tests", 1, readme.contains("`.ci/run`") ? 1 : 0);
        Check.end();
    }

    private static void exampleAsTold(String readme) throws Exception {
        Matcher block = Pattern.compile("(?s)```java\n(.*?)```").matcher(readme);
        Check.due("an example", 1, block.find() ? 1 : 0);
        String[] printed = printedBy(block.group(1)).split("\n");
        Matcher told = Pattern.compile("println\\(.*// (-?[0-9]+):").matcher(block.group(1));
        int line = 0;
        while (told.find()) {
            String want = told.group(1);
            String got = line < printed.length ? printed[line].trim() : "";
            Check.due("line " + line + " of the example prints " + got + ", not " + want, 1, got.equals(want) ? 1 : 0);
            line++;
        }
        Check.due("lines told", printed.length, line);
    }

    private static String printedBy(String example) throws Exception {
        Path made = Files.createTempDirectory("example");
        Path source = made.resolve("Example.java");
        PrintStream out = System.out;
        ByteArrayOutputStream printed = new ByteArrayOutputStream();
        try (URLClassLoader loader = new URLClassLoader(new URL[] {made.toUri().toURL()})) {
            Files.writeString(source, example);
            ToolProvider.getSystemJavaCompiler().run(null, null, null, "-d", made.toString(),
                    "-cp", System.getProperty("java.class.path"), source.toString());
            System.setOut(new PrintStream(printed));
            loader.loadClass("Example").getMethod("main", String[].class).invoke(null, (Object) new String[0]);
        } finally {
            System.setOut(out);
            for (String file : made.toFile().list()) Files.delete(made.resolve(file));
            Files.delete(made);
        }
        return printed.toString();
    }

    private static void allCallsNamed(String readme) {
        String table = readme.substring(readme.indexOf("| calls |"), readme.indexOf("## Inside"));
        for (var call : FoldGates.class.getMethods()) {
            if (call.getDeclaringClass() != FoldGates.class) continue;
            Check.due(call.getName() + " is named", 1, table.contains("`" + call.getName() + "`") ? 1 : 0);
        }
    }
}
