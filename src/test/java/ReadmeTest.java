import java.lang.reflect.Method;
import java.lang.reflect.Modifier;
import java.net.URL;
import java.net.URLClassLoader;
import java.nio.file.Files;
import java.nio.file.Path;
import java.util.Map;
import java.util.TreeMap;
import java.util.regex.Matcher;
import java.util.regex.Pattern;
import javax.tools.ToolProvider;

/** What README.md says: its examples are run as they stand there, and its table names each call once. */
public final class ReadmeTest {
    private static final Path README = Path.of("README.md");
    private static final Check CHECK = new Check();

    private ReadmeTest() {
    }

    public static void main(String[] args) throws Exception {
        String text = Files.readString(README);
        table(text);
        examples(text);
        CHECK.end("ReadmeTest");
    }

    private static void table(String text) {
        Map<String, Integer> named = new TreeMap<>();
        Matcher row = Pattern.compile("(?m)^\\| (`[^|]*) \\|").matcher(text);
        while (row.find()) {
            for (String call : row.group(1).replace("`", "").split(", ")) {
                named.merge(call, 1, Integer::sum);
            }
        }
        for (Method m : FaceSenate.class.getDeclaredMethods()) {
            if (Modifier.isPublic(m.getModifiers())) {
                CHECK.due("rows of README.md's table that name " + m.getName(), 1, named.getOrDefault(m.getName(), 0));
                named.remove(m.getName());
            }
        }
        CHECK.due("names in README.md's table that are no calls: " + named, 0, named.size());
    }

    /** The blocks of code become a class whose method counts the answers that are not as README.md says. */
    private static void examples(String text) throws Exception {
        StringBuilder methods = new StringBuilder();
        StringBuilder calls = new StringBuilder();
        Matcher block = Pattern.compile("(?s)```java\n(.*?)```").matcher(text);
        while (block.find()) {
            (block.group(1).startsWith("static") ? methods : calls).append(block.group(1));
        }
        String answers = calls.toString().replaceAll("(?m)^(x\\.[^\n]*\\)); +// (-?\\d+|true|false)\\b.*$",
                "CHECK_DUE(\"$1\", \"$2\", String.valueOf($1));");
        CHECK.due("README.md has examples with answers", true, answers.split("CHECK_DUE", -1).length > 10);
        Path out = Files.createTempDirectory("readme");
        Path source = out.resolve("ReadmeExamples.java");
        Files.writeString(source, "public final class ReadmeExamples { static int wrong = 0;\n" + methods
                + "static void CHECK_DUE(String call, String want, String got) { if (!want.equals(got)) { wrong++;\n"
                + "System.out.println(\"README.md: \" + call + \" answered \" + got + \", due is \" + want); } }\n"
                + "public static int wrong() {\n" + answers + "return wrong; } }\n");
        int compiled = ToolProvider.getSystemJavaCompiler().run(null, null, null, "-cp",
                System.getProperty("java.class.path"), "-d", out.toString(), source.toString());
        CHECK.due("README.md's examples compile", 0, compiled);
        if (compiled == 0) {
            try (URLClassLoader loader = new URLClassLoader(new URL[] {out.toUri().toURL()})) {
                Method wrong = loader.loadClass("ReadmeExamples").getMethod("wrong");
                CHECK.due("README.md's answers that are not as due", 0, (Integer) wrong.invoke(null));
            }
        }
        for (String name : new String[] {"ReadmeExamples.class", "ReadmeExamples.java", ""}) {
            Files.deleteIfExists(out.resolve(name));
        }
    }
}
