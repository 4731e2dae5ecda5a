import java.io.ByteArrayOutputStream;
import java.io.PrintStream;
import java.lang.reflect.Method;
import java.lang.reflect.Modifier;
import java.net.URL;
import java.net.URLClassLoader;
import java.nio.charset.StandardCharsets;
import java.nio.file.DirectoryStream;
import java.nio.file.Files;
import java.nio.file.Path;
import java.util.List;
import javax.tools.JavaCompiler;
import javax.tools.ToolProvider;

/** README.md keeps its word: its example compiles, runs and answers as it says; no call and no test is left out. */
public final class ReadmeTest {
    private static final String EXAMPLE = "Example";
    private static final Check CHECK = new Check();

    public static void main(String[] args) throws Exception {
        String readme = Files.readString(Path.of("README.md"));
        int use = readme.indexOf("\n## Use\n");
        CHECK.due("README.md says how the class is used", use >= 0, true);
        String code = block(readme, "java", Math.max(use, 0));
        int afterCode = Math.max(readme.indexOf(code), 0) + code.length();
        answersAsStated(code, block(readme, "text", afterCode));
        namesEveryCall(readme);
        usesEveryCall(code);
        namesEveryTest(readme);
        CHECK.end();
    }

    /** The lines of the next block of that language from there on; empty if there is none. */
    private static String block(String text, String language, int start) {
        String fence = "\n```" + language + "\n";
        int opened = text.indexOf(fence, start);
        int begin = opened + fence.length();
        int end = opened < 0 ? -1 : text.indexOf("\n```\n", begin);
        CHECK.due("README.md has a block of " + language, end >= 0, true);
        return end < 0 ? "" : text.substring(begin, end + 1);
    }

    private static void answersAsStated(String code, String stated) throws Exception {
        Path place = Files.createTempDirectory("readme");
        try {
            boolean compiled = compile(code, place);
            CHECK.due("the example compiles", compiled, true);
            if (compiled) {
                compareLines(run(place).lines().toList(), stated.lines().toList());
            }
        } finally {
            remove(place);
        }
    }

    private static boolean compile(String code, Path place) throws Exception {
        Path file = place.resolve(EXAMPLE + ".java");
        Files.writeString(file, code);
        JavaCompiler compiler = ToolProvider.getSystemJavaCompiler();
        return compiler != null && compiler.run(null, System.out, System.out, "--release", "17", "-Xlint:all", "-Werror",
                "-cp", System.getProperty("java.class.path"), "-d", place.toString(), file.toString()) == 0;
    }

    /** What the example prints. */
    private static String run(Path place) throws Exception {
        PrintStream before = System.out;
        ByteArrayOutputStream printed = new ByteArrayOutputStream();
        try (URLClassLoader loader = new URLClassLoader(new URL[] {place.toUri().toURL()});
                PrintStream catching = new PrintStream(printed, true, StandardCharsets.UTF_8)) {
            System.setOut(catching);
            loader.loadClass(EXAMPLE).getMethod("main", String[].class).invoke(null, (Object) new String[0]);
        } finally {
            System.setOut(before);
        }
        return printed.toString(StandardCharsets.UTF_8);
    }

    private static void compareLines(List<String> printed, List<String> stated) {
        CHECK.due("lines that the example prints", printed.size(), stated.size());
        for (int i = 0; i < Math.min(printed.size(), stated.size()); i++) {
            CHECK.due("the example prints '" + printed.get(i) + "', README.md states '" + stated.get(i) + "': the same",
                    printed.get(i).equals(stated.get(i)), true);
        }
    }

    private static void remove(Path place) throws Exception {
        try (DirectoryStream<Path> files = Files.newDirectoryStream(place)) {
            for (Path file : files) {
                Files.delete(file);
            }
        }
        Files.delete(place);
    }

    private static void namesEveryCall(String readme) {
        for (Method m : DelayDesk.class.getDeclaredMethods()) {
            if (Modifier.isPublic(m.getModifiers())) {
                CHECK.due("README.md tells of " + m.getName(), readme.contains("| `" + m.getName() + "("), true);
            }
        }
    }

    private static void usesEveryCall(String code) {
        for (Method m : DelayDesk.class.getDeclaredMethods()) {
            if (Modifier.isPublic(m.getModifiers())) {
                CHECK.due("the example uses " + m.getName(), code.contains("desk." + m.getName() + "("), true);
            }
        }
    }

    private static void namesEveryTest(String readme) throws Exception {
        try (DirectoryStream<Path> tests = Files.newDirectoryStream(Path.of("src/test/java"), "*Test.java")) {
            for (Path test : tests) {
                String name = test.getFileName().toString().replace(".java", "");
                CHECK.due("README.md tells of " + name, readme.contains("`" + name + "`"), true);
            }
        }
    }
}
