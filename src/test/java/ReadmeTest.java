import java.io.File;
import java.io.IOException;
import java.lang.reflect.InvocationTargetException;
import java.lang.reflect.Method;
import java.lang.reflect.Modifier;
import java.net.URLClassLoader;
import java.nio.file.Files;
import java.nio.file.Path;
import java.util.ArrayList;
import java.util.List;
import java.util.regex.Matcher;
import java.util.regex.Pattern;
import javax.tools.JavaCompiler;
import javax.tools.ToolProvider;

/** README.md holds: its examples compile and answer what it tells, and it tells of every method and every test. */
public final class ReadmeTest {
    private static final Pattern ANSWERED = Pattern.compile("(x\\.\\w+\\(.*\\)); +// (-?\\d+|NONE|UNKNOWN|OUTSIDE|NOT|FULL)(:.*)?");
    private static final Pattern FILE = Pattern.compile("(?:\\.\\./shared|src|\\.ci)/[\\w./]*\\w");

    private static int wrong = 0;

    public static void main(String[] args) throws ReflectiveOperationException, IOException {
        String page = Files.readString(Path.of("README.md"));
        List<String> examples = linesOf(page, "java");
        checkMethods(examples);
        checkTests(page);
        checkFiles(page);
        int answers = runExamples(examples);
        check(answers > 0, "no example with an answer");
        if (wrong != 0) System.exit(1);
        System.out.println(answers + " answers of README.md are as it tells");
    }

    private static void check(boolean holds, String what) {
        if (holds) return;
        wrong++;
        System.out.println("README.md: " + what);
    }

    /** Called by the examples. */
    public static void due(String call, int got, int want) {
        check(got == want, call + " answered " + got + ", it tells " + want);
    }

    private static List<String> linesOf(String page, String kind) {
        List<String> lines = new ArrayList<>();
        boolean inside = false;
        for (String line : page.split("\n")) {
            if (line.startsWith("```")) inside = line.equals("```" + kind);
            else if (inside) lines.add(line);
        }
        return lines;
    }

    private static void checkMethods(List<String> examples) {
        for (Method method : LoftGraves.class.getDeclaredMethods()) {
            if (!Modifier.isPublic(method.getModifiers())) continue;
            String call = "x." + method.getName() + "(";
            check(examples.stream().anyMatch(line -> line.contains(call)), "no example of " + method.getName());
        }
    }

    private static void checkTests(String page) throws IOException {
        try (var files = Files.list(Path.of("src/test/java"))) {
            for (Path file : files.toList()) {
                String name = file.getFileName().toString().replace(".java", "");
                check(page.contains(name), "nothing of the test " + name);
            }
        }
    }

    private static void checkFiles(String page) {
        Matcher found = FILE.matcher(page);
        while (found.find()) check(Files.exists(Path.of(found.group())), "there is no " + found.group());
    }

    /** All blocks are one run on one object, as they stand on the page; answers that it tells are asked. */
    private static int runExamples(List<String> examples) throws ReflectiveOperationException, IOException {
        StringBuilder source = new StringBuilder("public final class Page {\n    public static void run() {\n");
        int answers = 0;
        for (String line : examples) {
            Matcher told = ANSWERED.matcher(line);
            if (told.matches()) {
                String want = Character.isLetter(told.group(2).charAt(0)) ? "LoftGraves." + told.group(2) : told.group(2);
                source.append("ReadmeTest.due(\"" + told.group(1) + "\", " + told.group(1) + ", " + want + ");\n");
                answers++;
            } else {
                check(!line.contains("//"), "an answer that cannot be read: " + line);
                source.append(line).append('\n');
            }
        }
        run(source.append("    }\n}\n").toString());
        return answers;
    }

    private static void run(String source) throws ReflectiveOperationException, IOException {
        Path place = Files.createTempDirectory("readme");
        Path file = Files.writeString(place.resolve("Page.java"), source);
        JavaCompiler javac = ToolProvider.getSystemJavaCompiler();
        int flaws = javac.run(null, null, null, "-cp", System.getProperty("java.class.path"), "-d", place.toString(), file.toString());
        check(flaws == 0, "its examples do not compile");
        if (flaws == 0) callPage(place);
        for (File one : place.toFile().listFiles()) Files.delete(one.toPath());
        Files.delete(place);
    }

    private static void callPage(Path place) throws ReflectiveOperationException, IOException {
        try (URLClassLoader loader = new URLClassLoader(new java.net.URL[] {place.toUri().toURL()}, ReadmeTest.class.getClassLoader())) {
            loader.loadClass("Page").getMethod("run").invoke(null);
        } catch (InvocationTargetException e) {
            check(false, "its examples threw " + e.getCause());
        }
    }
}
