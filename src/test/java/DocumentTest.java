import java.lang.reflect.Constructor;
import java.lang.reflect.Field;
import java.lang.reflect.Method;
import java.lang.reflect.Modifier;
import java.lang.reflect.Parameter;
import java.nio.file.DirectoryStream;
import java.nio.file.Files;
import java.nio.file.Path;
import java.util.Arrays;
import java.util.Set;
import java.util.TreeSet;
import java.util.regex.Matcher;
import java.util.regex.Pattern;

/**
 * The document from its first line: the class has the face that stands there and no other, and what is
 * said under 'Terms' and as promises is quoted, word for word, by the tests of the edges.
 */
public final class DocumentTest {
    private static final Path DOCUMENT = Path.of("../shared/DOC.md");
    private static final Path TESTS = Path.of("src/test/java");
    private static final int PROMISES = 48;

    private static int wrong = 0;

    public static void main(String[] args) throws Exception {
        if (!Files.exists(DOCUMENT)) {
            System.out.println("DocumentTest: no document at " + DOCUMENT);
            System.exit(1);
        }
        String document = Files.readString(DOCUMENT);
        face(document);
        promises(document);
        everyWordIsQuoted(document);
        System.out.println(wrong == 0 ? "DocumentTest: all that is said is tested" : wrong + " things are not so");
        if (wrong != 0) {
            System.exit(1);
        }
    }

    private static void must(boolean is, String what) {
        if (!is) {
            wrong++;
            System.out.println("not so: " + what);
        }
    }

    private static String found(String pattern, String text) {
        Matcher matcher = Pattern.compile(pattern).matcher(text);
        return matcher.find() ? matcher.group(1) : "";
    }

    private static void face(String document) throws Exception {
        String block = found("(?s)```java\\s*public final class GuessFerry \\{(.*?)\\}\\s*```", document);
        Set<String> due = new TreeSet<>();
        for (String line : block.split(";")) {
            if (!line.isBlank()) {
                due.add(line.strip());
            }
        }
        must(due.size() == PROMISES + 1, "a constant, a constructor and a method for each promise but the first");
        Set<String> there = new TreeSet<>();
        for (Field field : GuessFerry.class.getFields()) {
            there.add(Modifier.toString(field.getModifiers()) + " int " + field.getName() + " = " + field.getInt(null));
        }
        for (Constructor<?> constructor : GuessFerry.class.getConstructors()) {
            there.add("public GuessFerry(" + typesOf(constructor.getParameters()) + ")");
        }
        for (Method method : GuessFerry.class.getDeclaredMethods()) {
            if (Modifier.isPublic(method.getModifiers())) {
                there.add("public " + method.getReturnType() + " " + method.getName() + "("
                    + typesOf(method.getParameters()) + ")");
            }
        }
        Set<String> dueTypes = new TreeSet<>();
        for (String one : due) {
            dueTypes.add(one.replaceAll("(int|boolean) \\w+(?=[,)])", "$1"));
        }
        must(dueTypes.equals(there), "the face is the document's: " + there);
    }

    private static String typesOf(Parameter[] parameters) {
        StringBuilder types = new StringBuilder();
        for (Parameter parameter : parameters) {
            types.append(types.length() == 0 ? "" : ", ").append(parameter.getType());
        }
        return types.toString();
    }

    private static void promises(String document) {
        for (int i = 1; i <= PROMISES; i++) {
            must(document.contains("\n## Promise " + i + ": "), "there is a promise " + i);
        }
        must(!document.contains("\n## Promise " + (PROMISES + 1)), "there are " + PROMISES + " promises");
    }

    /** What is left of the document without what the tests quote has no word in it. */
    private static void everyWordIsQuoted(String document) throws Exception {
        int from = document.indexOf("## Terms");
        int to = document.indexOf("## Not promised");
        must(from >= 0 && to > from, "the document has its parts");
        if (from < 0 || to <= from) {
            return;
        }
        String said = oneLine(document.substring(from, to)
            .replaceAll("(?m)^## .*$", "").replaceAll("(?m)^```.*$", "").replaceAll("(?m)^`[^`]*`:", "")
            .replaceAll("====\\s+I*V?\\.", ""));
        boolean[] isQuoted = new boolean[said.length()];
        for (String quote : quotes()) {
            for (int at = said.indexOf(quote); at >= 0; at = said.indexOf(quote, at + 1)) {
                Arrays.fill(isQuoted, at, at + quote.length(), true);
            }
        }
        StringBuilder rest = new StringBuilder();
        for (int i = 0; i < isQuoted.length; i++) {
            rest.append(isQuoted[i] ? '\n' : said.charAt(i));
        }
        for (String piece : rest.toString().split("\n+")) {
            must(!piece.matches(".*[A-Za-z0-9].*"), "a test quotes '" + piece.strip() + "'");
        }
    }

    private static Set<String> quotes() throws Exception {
        Set<String> quotes = new TreeSet<>();
        Pattern call = Pattern.compile("Edge\\.says\\(((?:\"(?:[^\"\\\\]|\\\\.)*\"[\\s+]*)+)\\)");
        Pattern text = Pattern.compile("\"((?:[^\"\\\\]|\\\\.)*)\"");
        try (DirectoryStream<Path> files = Files.newDirectoryStream(TESTS, "*EdgesTest.java")) {
            for (Path file : files) {
                Matcher calls = call.matcher(Files.readString(file));
                while (calls.find()) {
                    StringBuilder quote = new StringBuilder();
                    Matcher texts = text.matcher(calls.group(1));
                    while (texts.find()) {
                        quote.append(texts.group(1));
                    }
                    quotes.add(oneLine(quote.toString()));
                }
            }
        }
        return quotes;
    }

    private static String oneLine(String text) {
        return text.replaceAll("\\s+", " ");
    }
}
