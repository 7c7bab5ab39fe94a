import java.io.ByteArrayOutputStream;
import java.io.File;
import java.io.PrintStream;
import java.lang.reflect.Method;
import java.lang.reflect.Modifier;
import java.net.URL;
import java.net.URLClassLoader;
import java.nio.file.Files;
import java.nio.file.Path;
import java.util.ArrayList;
import java.util.List;
import java.util.regex.Matcher;
import java.util.regex.Pattern;
import javax.tools.ToolProvider;

/**
 * README.md must not tell what is not so: every call of the document stands in its tables with its own parameters, every
 * class inside and every test is named, and its examples print what their comments say. Run at the root.
 */
public final class ReadmeTest {
    private static int wrong = 0;

    private static void must(boolean holds, String what) {
        if (!holds) {
            wrong++;
            System.out.println("not so: " + what);
        }
    }

    public static void main(String[] args) throws Exception {
        String page = Files.readString(Path.of("README.md"));
        namesEveryCall(page);
        namesEveryClass(page);
        namesEveryTest(page);
        List<String> examples = blocks(page);
        must(examples.size() == 2, "two examples");
        for (int i = 0; i < examples.size(); i++) {
            printsWhatItSays("Example" + i, examples.get(i));
        }
        System.out.println(wrong == 0 ? "README.md is as the class is" : wrong + " things are not so");
        System.exit(wrong > 0 ? 1 : 0);
    }

    private static void namesEveryCall(String page) throws Exception {
        String doc = Files.readString(Path.of("..", "shared", "DOC.md"));
        Matcher m = Pattern.compile("public (?:int|long|double|boolean) (\\w+)\\(([^)]*)\\);").matcher(doc);
        int calls = 0;
        while (m.find()) {
            String call = m.group(1) + "(" + m.group(2).replaceAll("(?:int|long|double) (\\w+)", "$1") + ")";
            must(page.contains("| `" + call + "` |"), "a row for " + call);
            calls++;
        }
        int faced = 0;
        for (Method method : OpticalHouse.class.getDeclaredMethods()) {
            faced += Modifier.isPublic(method.getModifiers()) ? 1 : 0;
        }
        must(calls == faced, "as many rows as calls");
    }

    private static void namesEveryClass(String page) {
        for (Class<?> inside : OpticalHouse.class.getDeclaredClasses()) {
            must(page.contains("`" + inside.getSimpleName() + "`"), "a word on the class " + inside.getSimpleName());
        }
    }

    private static void namesEveryTest(String page) {
        File[] tests = new File("src/test/java").listFiles();
        must(tests != null && tests.length > 0, "the tests are found");
        for (File test : tests == null ? new File[0] : tests) {
            String name = test.getName().replace(".java", "");
            must(page.contains("| `" + name + "` |"), "a row for the test " + name);
        }
    }

    private static List<String> blocks(String page) {
        List<String> found = new ArrayList<>();
        Matcher m = Pattern.compile("(?s)```java\n(.*?)```").matcher(page);
        while (m.find()) {
            found.add(m.group(1));
        }
        return found;
    }

    /** A line that prints bears what it prints as its comment, up to a colon, if there is one. */
    private static void printsWhatItSays(String name, String code) throws Exception {
        List<String> due = new ArrayList<>();
        Matcher m = Pattern.compile("println\\(.*\\);\\s*// ([^:\n]*)").matcher(code);
        while (m.find()) {
            due.add(m.group(1).strip());
        }
        must(due.size() == code.split("println", -1).length - 1, "a comment behind each line that prints in " + name);
        List<String> printed = run(name, code);
        must(printed.equals(due), name + " prints " + due + ", but " + printed + " came");
    }

    private static List<String> run(String name, String code) throws Exception {
        Path folder = Files.createTempDirectory("readme");
        Path file = folder.resolve(name + ".java");
        Files.writeString(file, "public class " + name + " { public static void main(String[] args) {\n" + code + "\n} }\n");
        int failed = ToolProvider.getSystemJavaCompiler().run(null, null, null, "-cp", System.getProperty("java.class.path"),
                "-d", folder.toString(), file.toString());
        must(failed == 0, name + " compiles");
        ByteArrayOutputStream out = new ByteArrayOutputStream();
        PrintStream screen = System.out;
        try (URLClassLoader loader = new URLClassLoader(new URL[] {folder.toUri().toURL()})) {
            if (failed == 0) {
                System.setOut(new PrintStream(out, true));
                loader.loadClass(name).getMethod("main", String[].class).invoke(null, (Object) new String[0]);
            }
        } finally {
            System.setOut(screen);
            for (File left : folder.toFile().listFiles()) {
                left.delete();
            }
            folder.toFile().delete();
        }
        return out.toString().lines().toList();
    }
}
