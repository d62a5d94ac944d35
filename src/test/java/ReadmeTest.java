import java.io.ByteArrayOutputStream;
import java.io.PrintStream;
import java.lang.reflect.Method;
import java.lang.reflect.Modifier;
import java.net.URL;
import java.net.URLClassLoader;
import java.nio.file.Files;
import java.nio.file.Path;
import java.util.regex.Matcher;
import java.util.regex.Pattern;
import javax.tools.ToolProvider;

/** README.md's example compiles and prints what is said there, and its table has each call of the face. */
public final class ReadmeTest {
    private static final Path FILE = Path.of("README.md");

    public static void main(String[] args) throws Exception {
        String text = Files.readString(FILE);
        table(text);
        example(block(text, "java"), block(text, "text"));
        Check.due("it says how to run the tests", text.contains(".ci/run"), true);
        Check.end();
    }

    private static void table(String text) {
        int rows = 0;
        for (Method method : CaseLayout.class.getDeclaredMethods()) {
            if (Modifier.isPublic(method.getModifiers())) {
                rows++;
                Check.due("the row of " + method.getName(), refusals(text, method.getName()), thrownBy(method));
            }
        }
        Check.due("rows of the table", Pattern.compile("(?m)^\\| `").matcher(text).results().count(), rows + 1);
    }

    /** The last column of a call's row. */
    private static String refusals(String text, String name) {
        Matcher row = Pattern.compile("(?m)^\\| `" + name + "\\(.*\\|(.*)\\|$").matcher(text);
        return row.find() ? row.group(1).trim() : "missing";
    }

    private static String thrownBy(Method method) {
        StringBuilder names = new StringBuilder();
        for (Class<?> thrown : method.getExceptionTypes()) {
            names.append(names.length() == 0 ? "" : ", ")
                    .append(thrown.getSimpleName().replaceAll("OutOfBoundsException|Illegal|Exception", ""));
        }
        return names.toString();
    }

    private static String block(String text, String language) {
        Matcher block = Pattern.compile("(?s)```" + language + "\n(.*?)```").matcher(text);
        return block.find() ? block.group(1) : "no block of " + language;
    }

    private static void example(String code, String due) throws Exception {
        Path made = Files.createTempDirectory("readme");
        Path source = made.resolve("Example.java");
        Files.writeString(source, "public class Example { public static void main(String[] args) {\n" + code + "}}\n");
        int failed = ToolProvider.getSystemJavaCompiler().run(null, null, null, "-d", made.toString(), "-cp",
                System.getProperty("java.class.path"), source.toString());
        Check.due("the example's compiler", failed, 0);
        if (failed == 0) {
            Check.due("the example", printed(made), due);
        }
        for (String name : new String[] {"Example.class", "Example.java", ""}) {
            Files.deleteIfExists(made.resolve(name));
        }
    }

    private static String printed(Path classes) throws Exception {
        ByteArrayOutputStream bytes = new ByteArrayOutputStream();
        PrintStream before = System.out;
        try (URLClassLoader loader = new URLClassLoader(new URL[] {classes.toUri().toURL()})) {
            Method main = loader.loadClass("Example").getMethod("main", String[].class);
            System.setOut(new PrintStream(bytes, true));
            main.invoke(null, (Object) new String[0]);
        } finally {
            System.setOut(before);
        }
        return bytes.toString().replace(System.lineSeparator(), "\n");
    }
}
