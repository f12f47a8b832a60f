import java.io.ByteArrayOutputStream;
import java.io.IOException;
import java.io.PrintStream;
import java.lang.reflect.Method;
import java.net.URL;
import java.net.URLClassLoader;
import java.nio.file.Files;
import java.nio.file.Path;
import java.util.Set;
import java.util.TreeSet;
import java.util.regex.Matcher;
import java.util.regex.Pattern;
import java.util.stream.Collectors;
import java.util.stream.Stream;
import javax.tools.ToolProvider;

/** What README.md and BOUNDARIES.md say is so: the example prints what is told, each test is named, no other is. */
public final class ReadmeTest {
    private static final Path README = Path.of("README.md");
    private static final Path BOUNDARIES = Path.of("src/test/BOUNDARIES.md");
    private static final Path TESTS = Path.of("src/test/java");
    private static final Checks c = new Checks();

    public static void main(String[] args) throws Exception {
        String readme = Files.readString(README);
        c.dueText("what the example prints", block(readme, "text"), printed(block(readme, "java")));
        c.dueText("the tests that README.md names", tests().toString(), named(readme, "^\\| `(\\w+Test)` \\|").toString());
        c.dueText("the calls that README.md names", calls().toString(), callsNamed(readme).toString());
        boundaries();
        c.end();
    }

    private static String block(String page, String language) {
        Matcher found = Pattern.compile("```" + language + "\n(.*?)```", Pattern.DOTALL).matcher(page);
        if (!found.find()) {
            c.fault("no block of " + language);
            return "";
        }
        return found.group(1);
    }

    private static Set<String> named(String page, String pattern) {
        return Pattern.compile(pattern, Pattern.MULTILINE).matcher(page).results()
                .map(one -> one.group(1)).collect(Collectors.toCollection(TreeSet::new));
    }

    private static Set<String> tests() throws IOException {
        try (Stream<Path> files = Files.list(TESTS)) {
            return files.map(file -> file.getFileName().toString()).filter(name -> name.endsWith("Test.java"))
                    .map(name -> name.substring(0, name.length() - 5)).collect(Collectors.toCollection(TreeSet::new));
        }
    }

    private static Set<String> calls() {
        Set<String> names = new TreeSet<>();
        for (Method method : RegisterRows.class.getMethods()) {
            if (method.getDeclaringClass() == RegisterRows.class) {
                names.add(method.getName());
            }
        }
        return names;
    }

    private static Set<String> callsNamed(String readme) {
        int from = readme.indexOf("| to do | calls |");
        return named(readme.substring(Math.max(0, from), readme.indexOf("\n\n", from)), "`(\\w+)`(?=[^|]*\\|$)").stream()
                .filter(name -> !name.equals("all")).collect(Collectors.toCollection(TreeSet::new));
    }

    /** The lines are compiled as they stand, within a main method, beside the class. */
    private static String printed(String lines) throws Exception {
        Path folder = Files.createDirectories(Path.of("build", "readme"));
        Path file = folder.resolve("Example.java");
        Files.writeString(file, "public class Example { public static void main(String[] args) {\n" + lines + "}}\n");
        int wrong = ToolProvider.getSystemJavaCompiler().run(null, null, null, "-cp",
                System.getProperty("java.class.path"), "-d", folder.toString(), file.toString());
        if (wrong != 0) {
            c.fault("the example does not compile");
            return "";
        }
        PrintStream before = System.out;
        ByteArrayOutputStream bytes = new ByteArrayOutputStream();
        try (URLClassLoader loader = new URLClassLoader(new URL[] {folder.toUri().toURL()})) {
            System.setOut(new PrintStream(bytes, true));
            loader.loadClass("Example").getMethod("main", String[].class).invoke(null, (Object) new String[0]);
        } finally {
            System.setOut(before);
        }
        return bytes.toString().stripTrailing() + "\n";
    }

    /** Behind the second bar of each row stand names such as `Groups.depth`, `oncePerGroup`; `Sums.levels`. */
    private static void boundaries() throws IOException {
        for (String line : Files.readAllLines(BOUNDARIES)) {
            String[] cells = line.split("\\|");
            if (cells.length != 3 || !cells[2].contains("`")) {
                continue;
            }
            String test = "";
            for (Matcher name = Pattern.compile("`([^`]*)`").matcher(cells[2]); name.find(); ) {
                String text = name.group(1);
                if (Character.isUpperCase(text.charAt(0))) {
                    test = text.split("\\.")[0] + "Test";
                    text = text.contains(".") ? text.split("\\.")[1] : "main";
                }
                if (!hasMethod(test, text)) {
                    c.fault("BOUNDARIES.md names " + text + " of " + test + ", which is not there");
                }
            }
        }
    }

    private static boolean hasMethod(String test, String name) {
        try {
            for (Method method : Class.forName(test).getDeclaredMethods()) {
                if (method.getName().equals(name)) {
                    return true;
                }
            }
        } catch (ClassNotFoundException e) {
            return false;
        }
        return false;
    }
}
