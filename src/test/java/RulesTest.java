import java.io.IOException;
import java.lang.reflect.Constructor;
import java.lang.reflect.Field;
import java.lang.reflect.Method;
import java.lang.reflect.Modifier;
import java.nio.file.Files;
import java.nio.file.Path;
import java.util.Arrays;
import java.util.List;
import java.util.TreeSet;
import java.util.regex.Matcher;
import java.util.regex.Pattern;

/** The document's face, and what of LANGUAGE.md can be seen from outside or in the text of the class. */
public final class RulesTest {
    private static final String[] FACE = {
        "int moments(int)", "int wish(int, int, int, int)", "int gift(int, int, int, int)", "int undo()",
        "int tighten(int, int, int)", "int link(int, int)", "int feed(int, int, int, int, int)",
        "int trim(int)", "int read()", "int together()", "long distance(int, int)", "int strong()",
        "int weak()", "int spoiler(int)", "int lively()", "int rounds()", "long edge(int, int)",
        "long wait(int, int)", "int start()", "int happen(int)", "int goOn()", "int idle(int)",
        "int came(int)", "int may(int)", "int now()", "int check()", "int told(int)"};
    private static final String[] CONSTANTS = {"UNKNOWN -11", "OUTSIDE -12", "STATE -13", "FULL -14",
        "NONE -9", "FAR 4611686018427387904"};

    private static int wrong = 0;

    private static void holds(boolean condition, String rule) {
        if (!condition) {
            wrong++;
            System.out.println("not so: " + rule);
        }
    }

    public static void main(String[] args) throws IOException, IllegalAccessException {
        face();
        nestedClasses();
        String source = Files.readString(Path.of("src/main/java/TickPlans.java"));
        String code = source.replaceAll("(?s)/\\*.*?\\*/", "").replaceAll("//[^\n]*", "");
        words(code);
        making(code);
        parts(source);
        methodLengths(code);
        System.out.println(wrong == 0 ? "the face and the rules hold" : wrong + " rules do not hold");
        if (wrong != 0) {
            System.exit(1);
        }
    }

    private static void face() throws IllegalAccessException {
        holds(Modifier.isPublic(TickPlans.class.getModifiers()), "the class is public");
        holds(Modifier.isFinal(TickPlans.class.getModifiers()), "the class is final");
        TreeSet<String> methods = new TreeSet<>();
        for (Method m : TickPlans.class.getDeclaredMethods()) {
            if (!Modifier.isPrivate(m.getModifiers())) {
                holds(Modifier.isPublic(m.getModifiers()) && !Modifier.isStatic(m.getModifiers()), m + " is public");
                String parameters = Arrays.toString(m.getParameterTypes());
                methods.add(m.getReturnType() + " " + m.getName() + "(" + parameters.substring(1, parameters.length() - 1) + ")");
            }
        }
        holds(methods.equals(new TreeSet<>(List.of(FACE))), "the methods are those of the document: " + methods);
        TreeSet<String> constants = new TreeSet<>();
        for (Field f : TickPlans.class.getDeclaredFields()) {
            if (!Modifier.isPrivate(f.getModifiers())) {
                holds(Modifier.isPublic(f.getModifiers()) && Modifier.isStatic(f.getModifiers())
                        && Modifier.isFinal(f.getModifiers()), f + " is a constant");
                holds(f.getType() == (f.getName().equals("FAR") ? long.class : int.class), f + " has its type");
                constants.add(f.getName() + " " + f.get(null));
            }
        }
        holds(constants.equals(new TreeSet<>(List.of(CONSTANTS))), "the constants are those of the document: " + constants);
        Constructor<?>[] constructors = TickPlans.class.getDeclaredConstructors();
        holds(constructors.length == 1 && Modifier.isPublic(constructors[0].getModifiers())
                && constructors[0].getParameterCount() == 0, "one public constructor");
    }

    private static void nestedClasses() {
        TreeSet<String> names = new TreeSet<>();
        for (Method m : TickPlans.class.getMethods()) {
            names.add(m.getName());
        }
        Class<?>[] nested = TickPlans.class.getDeclaredClasses();
        holds(nested.length <= 12, "at most twelve classes");
        for (Class<?> c : nested) {
            holds(Modifier.isStatic(c.getModifiers()), c + " is static");
            holds(!Modifier.isPublic(c.getModifiers()) && !Modifier.isProtected(c.getModifiers()), c + " is not seen");
            int fields = 0;
            for (Field f : c.getDeclaredFields()) {
                fields += Modifier.isStatic(f.getModifiers()) ? 0 : 1;
                holds(!Modifier.isStatic(f.getModifiers()) || Modifier.isFinal(f.getModifiers()), f + " does not change");
            }
            holds(fields <= 20, c + " has at most twenty fields");
            for (Method m : c.getDeclaredMethods()) {
                holds(!names.contains(m.getName()), m + " has a name of its own");
                holds(m.getParameterCount() <= 7, m + " takes at most seven");
            }
        }
        for (Method m : TickPlans.class.getDeclaredMethods()) {
            holds(!Modifier.isPrivate(m.getModifiers()) || !names.contains(m.getName()), m + " has a name of its own");
        }
    }

    private static void words(String code) {
        for (String word : List.of("throw", "throws", "try", "catch", "finally", "synchronized", "assert",
                "package", "Object", "Thread", "System\\.(?!arraycopy)", "String", "Integer", "double", "float")) {
            holds(!Pattern.compile("\\b" + word + (word.endsWith(")") ? "" : "\\b")).matcher(code).find(), "no " + word);
        }
        for (String mark : List.of("->", "::", "/ ", "%", "@")) {
            holds(!code.contains(mark), "no " + mark);
        }
        Matcher imports = Pattern.compile("import ([^;]*);").matcher(code);
        while (imports.find()) {
            holds(imports.group(1).equals("java.util.Arrays"), "import of " + imports.group(1));
        }
    }

    /** What the interface says ahead of its calls: they stand in the document's order under these lines. */
    private static void parts(String source) {
        String[][] parts = {
            {"---- 1 nets", "moments", "wish", "gift", "undo", "tighten", "link", "feed", "trim", "read"},
            {"---- 2 what hangs together", "together", "distance", "strong", "weak", "spoiler"},
            {"---- 3 waits", "lively", "rounds", "edge", "wait"},
            {"---- 4 runs", "start", "happen", "goOn", "idle", "came", "may", "now", "check", "told"}};
        int place = 0;
        for (String[] part : parts) {
            for (int i = 0; i < part.length; i++) {
                String line = i == 0 ? "// " + part[i] + "\n" : "public (int|long) " + part[i] + "\\(";
                Matcher found = Pattern.compile(line).matcher(source);
                boolean there = found.find(place);
                holds(there, "in its place: " + part[i]);
                place = there ? found.end() : place;
            }
        }
    }

    /** LANGUAGE.md, rule 11: methods stay short (some sixty lines). */
    private static void methodLengths(String code) {
        Matcher methods = Pattern.compile("(?m)^( +)[^\n;=]*\\) \\{\\n(?:(?!\\1\\}).*\\n)*\\1\\}$").matcher(code);
        int count = 0;
        while (methods.find()) {
            count++;
            long lines = methods.group().lines().count();
            holds(lines <= 60, lines + " lines: " + methods.group().lines().findFirst().orElse(""));
        }
        holds(count > 28, "methods are seen: " + count);
    }

    /** Rows are made with the object: every "new" fills a field, none stands in a call. */
    private static void making(String code) {
        for (String line : code.split("\n")) {
            if (line.contains("new ")) {
                boolean row = line.matches(" {8}private final \\w+\\[\\] \\w+ = new \\w+\\[[A-Z_* 0-9]+\\];");
                boolean part = line.matches(" {8}\\w+ = new \\w+\\(\\);");
                holds(row || part, "made with the object: " + line.trim());
            }
        }
    }
}
