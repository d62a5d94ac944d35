import java.io.IOException;
import java.nio.file.Files;
import java.nio.file.Path;
import java.util.Set;
import java.util.regex.Matcher;
import java.util.regex.Pattern;

/** What of ../shared/LANGUAGE.md can be read off the program's text. */
public final class RulesTest {
    private static final Path FILE = Path.of("src/main/java/CaseLayout.java");

    private static final Set<String> LIBRARY = Set.of("Math.max", "Math.min", "Math.abs", "Arrays.fill",
            "System.arraycopy");
    private static final Set<String> THROWN = Set.of("IndexOutOfBoundsException", "IllegalStateException",
            "IllegalArgumentException");
    private static final String[] RULED_OUT = {"->", "::", "\\bpackage\\b", "\\btry\\b", "\\bcatch\\b",
        "\\bfinally\\b", "\\bsynchronized\\b", "\\bassert\\b", "\\bnull\\b", "\\bprotected\\b", "\\bdouble\\b",
        "\\bfloat\\b", "\\bObject\\b", "\\bThread\\b", "\\bRandom\\b", "\\w+Exact\\b", "static \\{"};

    public static void main(String[] args) throws IOException {
        String text = Files.readString(FILE).replaceAll("/\\*(?s:.*?)\\*/", "").replaceAll("//[^\n]*", "");
        for (String word : RULED_OUT) {
            Check.due("ruled out: " + word, Pattern.compile(word).matcher(text).find(), false);
        }
        only(text, "import ([\\w.]+);", Set.of("java.util.Arrays"), "import");
        only(text, "\\b([A-Z][a-z]+\\.[a-z]\\w*)\\(", LIBRARY, "the library");
        only(text, "\\bthrow (?:new )?(\\w+)", THROWN, "thrown");
        Check.due("each throw has a written text", matches(text, "\\bthrow new \\w+\\(\"[^\"]*\"\\);"),
                matches(text, "\\bthrow\\b"));
        staticFields(text);
        sizes(text);
        Check.end();
    }

    private static void only(String text, String pattern, Set<String> allowed, String what) {
        Matcher found = Pattern.compile(pattern).matcher(text);
        while (found.find()) {
            Check.due(what + ": " + found.group(1), allowed.contains(found.group(1)), true);
        }
    }

    private static int matches(String text, String pattern) {
        return (int) Pattern.compile(pattern).matcher(text).results().count();
    }

    private static void staticFields(String text) {
        Matcher field = Pattern.compile("\\bstatic ([^;({]*)[;=]").matcher(text);
        while (field.find()) {
            Check.due("static " + field.group(1), field.group(1).startsWith("final int "), true);
        }
    }

    private static void sizes(String text) {
        Check.due("at most twelve classes", matches(text, "\\b(class|enum|record|interface) \\w+") <= 12, true);
        Matcher method = Pattern.compile("\n( +)[^\n;=.]*\\w\\(([^)]*)\\)[^\n;]*\\{\n").matcher(text);
        int methods = 0;
        while (method.find()) {
            if (method.group().trim().matches("(if|for|while|switch) .*|\\} else .*")) {
                continue;
            }
            methods++;
            int end = text.indexOf("\n" + method.group(1) + "}", method.end() - 1);
            String name = method.group().trim();
            Check.due("at most seven parameters: " + name, method.group(2).split(",").length <= 7, true);
            Check.due("at most sixty lines: " + name, matches(text.substring(method.end(), end), "\n") <= 60, true);
        }
        Check.due("the methods were found", methods > 40, true);
    }
}
