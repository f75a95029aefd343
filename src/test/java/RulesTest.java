import java.lang.management.ManagementFactory;
import java.lang.reflect.Constructor;
import java.lang.reflect.Field;
import java.lang.reflect.Method;
import java.lang.reflect.Modifier;
import java.nio.file.Files;
import java.nio.file.Path;
import java.util.Arrays;
import java.util.Set;
import java.util.TreeSet;
import java.util.regex.Matcher;
import java.util.regex.Pattern;

/** The rules of ../shared/LANGUAGE.md that can be seen from outside or in the source's signs; CodeRulesTest has the rest. */
public final class RulesTest {
    private static final String FACE = "boolean buoy(int,int,boolean);boolean fetch(int);boolean hold(int);"
        + "boolean restore(int);boolean undo();int all();int alike(int,int);int allGo(int);int ask(int,int);"
        + "int back(int);int bears(int,int);int cases();int chance(int);int chosen();int count(int);int darers();"
        + "int dearest(int);int drawn(int,int);int enough();int feed(int,int,int,int,int);int fit(int,int,int);"
        + "int forget();int go(int,int);int left(int);int lie(int,int);int likeliest();int needs(int,int,int);"
        + "int next(int);int odds(int,int);int open();int party(int,int);int place();int rank(int);int ranked(int);"
        + "int read();int safest(int);int share(int,int);int spread(int);int stuck();int sunk(int);int sure(int,int);"
        + "int tell(int,int,boolean);int then(int,int,int);int wave(int,int);int wisest(int);int year(int,int);"
        + "int years(int)";
    private static final int MOST_LINES = 60;
    private static final int MOST_PARAMETERS = 7;
    private static final int MOST_CLASSES = 12;
    private static final int MOST_FIELDS = 20;

    private static int wrong = 0;

    private static void must(boolean is, String what) {
        if (!is) {
            wrong++;
            System.out.println("not so: " + what);
        }
    }

    public static void main(String[] args) throws Exception {
        face();
        nested();
        source();
        room();
        System.out.println(wrong == 0 ? "RulesTest: all rules are kept" : wrong + " rules are broken");
        if (wrong != 0) {
            System.exit(1);
        }
    }

    private static void face() {
        Class<?> type = GuessFerry.class;
        must(Modifier.isPublic(type.getModifiers()) && Modifier.isFinal(type.getModifiers()), "public and final");
        Set<String> found = new TreeSet<>();
        for (Method method : type.getDeclaredMethods()) {
            if (!Modifier.isPrivate(method.getModifiers())) {
                must(Modifier.isPublic(method.getModifiers()), method + " is public");
                String types = Arrays.toString(method.getParameterTypes()).replaceAll("[\\[\\] ]", "");
                found.add(method.getReturnType() + " " + method.getName() + "(" + types + ")");
            }
        }
        must(found.equals(new TreeSet<>(Arrays.asList(FACE.split(";")))), "the face is the document's: " + found);
        Constructor<?>[] constructors = type.getDeclaredConstructors();
        must(constructors.length == 1 && constructors[0].getParameterCount() == 0
            && Modifier.isPublic(constructors[0].getModifiers()), "one public constructor without parameters");
        for (Field field : type.getDeclaredFields()) {
            boolean isPrivate = Modifier.isPrivate(field.getModifiers());
            must(isPrivate != field.getName().equals("NONE"), field + " is private, NONE alone is not");
        }
    }

    private static void nested() {
        Class<?>[] nested = GuessFerry.class.getDeclaredClasses();
        must(nested.length + 1 <= MOST_CLASSES, "at most " + MOST_CLASSES + " classes");
        Set<String> publicNames = new TreeSet<>();
        for (String one : FACE.split(";")) {
            publicNames.add(one.replaceAll("^\\w+ (\\w+).*$", "$1"));
        }
        for (Class<?> type : nested) {
            must(Modifier.isStatic(type.getModifiers()) && !Modifier.isPublic(type.getModifiers()), type + " is static");
        }
        for (Class<?> type : concat(nested, GuessFerry.class)) {
            int fields = 0;
            for (Field field : type.getDeclaredFields()) {
                int modifiers = field.getModifiers();
                must(!Modifier.isStatic(modifiers) || Modifier.isFinal(modifiers), field + " is final");
                fields += Modifier.isStatic(modifiers) ? 0 : 1;
            }
            must(fields <= MOST_FIELDS, type + " has at most " + MOST_FIELDS + " fields");
            for (Method method : type.getDeclaredMethods()) {
                must(method.getParameterCount() <= MOST_PARAMETERS, method + " has few parameters");
                must(!method.isSynthetic(), method + " is written out");
                must(Modifier.isPublic(method.getModifiers()) || !publicNames.contains(method.getName()),
                    method + " bears no public name");
            }
        }
    }

    private static Class<?>[] concat(Class<?>[] types, Class<?> one) {
        Class<?>[] all = Arrays.copyOf(types, types.length + 1);
        all[types.length] = one;
        return all;
    }

    private static void source() throws Exception {
        String text = Files.readString(Path.of("src/main/java/GuessFerry.java"));
        must(text.chars().allMatch(sign -> sign == '\n' || sign >= 32 && sign < 127), "signs 32 to 126 alone");
        String code = text.replaceAll("(?s)/\\*.*?\\*/", "").replaceAll("//[^\n]*", "")
            .replaceAll("\"[^\"\n]*\"", "TEXT").replaceAll("'[^'\n]*'", "SIGN");
        for (String word : new String[] {"package", "protected", "var", "enum", "record", "native", "volatile",
            "transient", "strictfp"}) {
            must(!Pattern.compile("\\b" + Pattern.quote(word) + "\\b").matcher(code).find(), "no " + word);
        }
        must(!Pattern.compile("static\\s*\\{").matcher(code).find(), "no static block");
        Matcher imports = Pattern.compile("import ([\\w.]+);").matcher(code);
        while (imports.find()) {
            must(imports.group(1).equals("java.util.Arrays"), "import of " + imports.group(1));
        }
        methodLines(text);
    }

    private static void methodLines(String text) {
        String start = null;
        int lines = 0;
        for (String line : text.split("\n")) {
            if (start == null && line.matches("( {4}){1,2}(public|private) [^=;]*\\) \\{")) {
                start = line.strip();
                lines = 0;
            }
            lines++;
            if (start != null && line.matches("( {4}){1,2}\\}")) {
                must(lines <= MOST_LINES, start + " has at most " + MOST_LINES + " lines");
                start = null;
            }
        }
    }

    /** A call makes no object, so what a run makes is what its constructors make. */
    private static void room() {
        com.sun.management.ThreadMXBean bean = (com.sun.management.ThreadMXBean) ManagementFactory.getThreadMXBean();
        long thread = Thread.currentThread().getId();
        GuessFerry x = new GuessFerry();
        calls(x);
        long before = bean.getThreadAllocatedBytes(thread);
        long between = bean.getThreadAllocatedBytes(thread);
        for (int i = 0; i < 20; i++) {
            calls(x);
        }
        long made = bean.getThreadAllocatedBytes(thread) - between - (between - before);
        must(made < 1000, "calls make no objects, but " + made + " bytes");
        before = bean.getThreadAllocatedBytes(thread);
        GuessFerry y = new GuessFerry();
        made = bean.getThreadAllocatedBytes(thread) - before;
        must(y.count(0) == 0 && made < 60000, "an object is small, but has " + made + " bytes");
    }

    private static void calls(GuessFerry x) {
        // "wave 9 8 7 6 5 4;   " twice, "party ann 1 2;      ".
        for (int i = 0; i < 2; i++) {
            x.feed(0x77617665, 0x20392038, 0x20372036, 0x20352034, 0x3b202020);
        }
        x.feed(0x70617274, 0x7920616e, 0x6e203120, 0x323b2020, 0x20202020);
        must(x.read() == 0, "the text is read");
        x.tell(0, 5, true);
        x.go(0, 7);
        x.fetch(0);
        x.buoy(0, 1, true);
        x.years(3);
        x.undo();
        x.hold(0);
        x.restore(0);
        int sum = x.sure(0, 8) + x.ranked(19) + x.rank(3) + x.allGo(0) + x.then(0, 40, 0) + x.next(0) + x.wisest(1);
        sum += x.fit(1, 1, 1) + x.lie(1, 1) + x.ask(1, 1) + x.year(3, 20) + x.drawn(0, 20) + x.share(0, 0);
        sum += x.chosen() + x.stuck() + x.sunk(3) + x.dearest(0) + x.left(5) + x.enough() + x.bears(0, 1);
        sum += x.wave(0, 5) + x.party(0, 4) + x.needs(0, 0, 0) + x.safest(0) + x.likeliest() + x.all() + x.cases();
        for (int what = 0; what <= 18; what++) {
            sum += x.count(what);
        }
        must(sum != Integer.MIN_VALUE, "all is called");
    }
}
