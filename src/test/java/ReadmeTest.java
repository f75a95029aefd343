import java.io.ByteArrayOutputStream;
import java.io.PrintStream;
import java.lang.reflect.Method;
import java.lang.reflect.Modifier;
import java.net.URL;
import java.net.URLClassLoader;
import java.nio.charset.StandardCharsets;
import java.nio.file.DirectoryStream;
import java.nio.file.Files;
import java.nio.file.Path;
import java.util.List;
import java.util.regex.Matcher;
import java.util.regex.Pattern;
import javax.tools.JavaCompiler;
import javax.tools.StandardJavaFileManager;
import javax.tools.ToolProvider;

/** README.md holds: its example compiles and prints what it says, and it names all calls and all tests. */
public final class ReadmeTest {
    private static int wrong = 0;

    public static void main(String[] args) throws Exception {
        String readme = Files.readString(Path.of("README.md"));
        Path folder = Files.createTempDirectory("readme");
        try {
            due("the example's output", printed(folder, block("java", readme)), block("text", readme));
        } finally {
            clear(folder);
        }
        for (Method method : GuessFerry.class.getDeclaredMethods()) {
            if (Modifier.isPublic(method.getModifiers())) {
                names(readme, method.getName());
            }
        }
        try (DirectoryStream<Path> tests = Files.newDirectoryStream(Path.of("src/test/java"), "*Test.java")) {
            for (Path test : tests) {
                names(readme, test.getFileName().toString().replace(".java", ""));
            }
        }
        names(readme, ".ci/run");
        System.out.println(wrong == 0 ? "ReadmeTest: README.md holds" : wrong + " things are not as it says");
        if (wrong != 0) {
            System.exit(1);
        }
    }

    private static void due(String what, String got, String want) {
        if (!got.equals(want)) {
            wrong++;
            System.out.println(what + " is\n" + got + "but README.md says\n" + want);
        }
    }

    private static void names(String readme, String name) {
        if (!readme.contains("`" + name + "`")) {
            wrong++;
            System.out.println("README.md does not name " + name);
        }
    }

    private static String block(String kind, String readme) {
        Matcher matcher = Pattern.compile("(?s)```" + kind + "\n(.*?)```").matcher(readme);
        return matcher.find() ? matcher.group(1) : "";
    }

    private static String printed(Path folder, String code) throws Exception {
        Path source = folder.resolve("Example.java");
        Files.writeString(source, code);
        JavaCompiler compiler = ToolProvider.getSystemJavaCompiler();
        try (StandardJavaFileManager files = compiler.getStandardFileManager(null, null, null)) {
            List<String> options = List.of("-d", folder.toString(), "-cp", System.getProperty("java.class.path"));
            if (!compiler.getTask(null, files, null, options, null, files.getJavaFileObjects(source)).call()) {
                return "";
            }
        }
        PrintStream out = System.out;
        ByteArrayOutputStream bytes = new ByteArrayOutputStream();
        try (URLClassLoader loader = new URLClassLoader(new URL[] {folder.toUri().toURL()})) {
            System.setOut(new PrintStream(bytes, true, StandardCharsets.UTF_8));
            loader.loadClass("Example").getMethod("main", String[].class).invoke(null, (Object) new String[0]);
        } finally {
            System.setOut(out);
        }
        return bytes.toString(StandardCharsets.UTF_8).replace(System.lineSeparator(), "\n");
    }

    private static void clear(Path folder) throws Exception {
        try (DirectoryStream<Path> files = Files.newDirectoryStream(folder)) {
            for (Path file : files) {
                Files.delete(file);
            }
        }
        Files.delete(folder);
    }
}
