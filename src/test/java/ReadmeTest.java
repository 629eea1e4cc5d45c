import java.io.ByteArrayOutputStream;
import java.io.IOException;
import java.io.PrintStream;
import java.lang.reflect.Method;
import java.lang.reflect.Modifier;
import java.net.URL;
import java.net.URLClassLoader;
import java.nio.file.Files;
import java.nio.file.Path;
import java.util.ArrayList;
import java.util.List;
import javax.tools.ToolProvider;

/** README.md: its program compiles and prints what is written beside it, and it names every call. */
public final class ReadmeTest {
    private static final String PRINTS = "System.out.println(";

    public static void main(String[] args) throws IOException, ReflectiveOperationException {
        String readme = Files.readString(Path.of("README.md"));
        String program = program(readme);
        List<String> want = written(program);
        List<String> got = printed(program);
        Check.due("lines printed", got.size(), want.size());
        for (int i = 0; i < Math.min(got.size(), want.size()); i++) {
            Check.due("line " + i, got.get(i), want.get(i));
        }
        for (Method m : LoomDesk.class.getDeclaredMethods()) {
            boolean named = readme.contains("`" + m.getName() + "`");
            Check.due(m + " is named", named || !Modifier.isPublic(m.getModifiers()), true);
        }
        Check.end();
    }

    private static String program(String readme) {
        int from = readme.indexOf("```java\n") + "```java\n".length();
        return readme.substring(from, readme.indexOf("```", from));
    }

    /** What stands behind // in the lines that print, as far as the colon. */
    private static List<String> written(String program) {
        List<String> want = new ArrayList<>();
        for (String line : program.split("\n")) {
            if (line.contains(PRINTS)) {
                want.add(line.substring(line.indexOf("// ") + 3).split(":")[0]);
            }
        }
        return want;
    }

    private static List<String> printed(String program) throws IOException, ReflectiveOperationException {
        Path folder = Files.createTempDirectory("readme");
        Path source = Files.writeString(folder.resolve("Use.java"), program);
        Path binary = folder.resolve("Use.class");
        String classes = System.getProperty("java.class.path");
        int wrong = ToolProvider.getSystemJavaCompiler().run(null, null, null,
            "-cp", classes, "-d", folder.toString(), source.toString());
        Check.due("javac of the program", wrong, 0);
        ByteArrayOutputStream text = new ByteArrayOutputStream();
        PrintStream out = System.out;
        try (URLClassLoader loader = new URLClassLoader(new URL[] {folder.toUri().toURL()})) {
            System.setOut(new PrintStream(text, true));
            loader.loadClass("Use").getMethod("main", String[].class).invoke(null, (Object) new String[0]);
        } finally {
            System.setOut(out);
            Files.deleteIfExists(source);
            Files.deleteIfExists(binary);
            Files.deleteIfExists(folder);
        }
        return text.toString().lines().toList();
    }
}
