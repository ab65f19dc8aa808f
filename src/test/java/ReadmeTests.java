import java.io.File;
import java.net.URL;
import java.net.URLClassLoader;
import java.nio.charset.StandardCharsets;
import java.nio.file.Files;
import java.nio.file.Path;
import java.nio.file.Paths;
import java.util.ArrayList;
import java.util.List;
import java.util.regex.Matcher;
import java.util.regex.Pattern;
import javax.tools.ToolProvider;

/** README.md is so: its Java answers what is told behind the calls, and each test is named. */
public final class ReadmeTests {
    /** A call, and behind it what it answers, with perhaps a colon and words. */
    private static final Pattern TOLD = Pattern.compile("(works\\..*\\));\\s+// (\\w+)(:.*)?");
    private static final String HEAD = "public final class ReadmeExample {\n"
            + "interface Call { Object get(); }\n"
            + "static int wrong = 0;\n"
            + "static void due(String want, String call, Call asked) {\n"
            + "    String got;\n"
            + "    try { got = String.valueOf(asked.get()); }\n"
            + "    catch (RuntimeException e) { got = e.getClass().getSimpleName(); }\n"
            + "    if (!got.equals(want)) {\n"
            + "        wrong++;\n"
            + "        System.out.println(\"README.md: \" + call + \" answered \" + got + \", told is \" + want);\n"
            + "    }\n"
            + "}\n";

    private static int checks = 0;

    public static void main(String[] args) throws Exception {
        List<String> page = Files.readAllLines(Paths.get("README.md"), StandardCharsets.UTF_8);
        int wrong = runExample(exampleOf(page)) + unnamedTests(String.join("\n", page));
        System.out.println(checks + " checks of README.md, " + wrong + " wrong");
        System.exit(wrong == 0 && checks > 0 ? 0 : 1);
    }

    /** The blocks of Java: those that are methods stand for themselves, the others are one run of calls. */
    private static String exampleOf(List<String> page) {
        StringBuilder methods = new StringBuilder();
        StringBuilder calls = new StringBuilder();
        StringBuilder block = null;
        for (String line : page) {
            if (line.equals("```java")) {
                block = new StringBuilder();
            } else if (line.equals("```") && block != null) {
                (block.indexOf("static ") == 0 ? methods : calls).append(block);
                block = null;
            } else if (block != null) {
                block.append(checked(line)).append('\n');
            }
        }
        return HEAD + methods + "public static int run() {\n" + calls + "return wrong;\n}\n}\n";
    }

    private static String checked(String line) {
        Matcher told = TOLD.matcher(line);
        if (!told.matches()) {
            return line;
        }
        checks++;
        String call = told.group(1);
        return "due(\"" + told.group(2) + "\", \"" + call + "\", () -> " + call + ");";
    }

    private static int runExample(String source) throws Exception {
        Path place = Files.createTempDirectory("readme");
        Path file = place.resolve("ReadmeExample.java");
        Files.write(file, source.getBytes(StandardCharsets.UTF_8));
        String known = System.getProperty("java.class.path");
        int failed = ToolProvider.getSystemJavaCompiler().run(null, null, null,
                "-cp", known, "-d", place.toString(), file.toString());
        if (failed != 0) {
            System.out.println("README.md: its Java does not compile:\n" + source);
            return 1;
        }
        try (URLClassLoader loader = new URLClassLoader(new URL[] {place.toUri().toURL()})) {
            return (int) loader.loadClass("ReadmeExample").getMethod("run").invoke(null);
        } finally {
            for (File made : place.toFile().listFiles()) {
                made.delete();
            }
            place.toFile().delete();
        }
    }

    private static int unnamedTests(String page) {
        List<String> unnamed = new ArrayList<>();
        for (File test : new File("src/test/java").listFiles()) {
            String name = test.getName().replace(".java", "");
            checks++;
            if (!page.contains("`" + name + "`")) {
                unnamed.add(name);
            }
        }
        if (!unnamed.isEmpty()) {
            System.out.println("README.md: not named are " + unnamed);
        }
        return unnamed.size();
    }
}
