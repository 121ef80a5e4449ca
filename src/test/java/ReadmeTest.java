import java.io.IOException;
import java.net.URL;
import java.net.URLClassLoader;
import java.nio.file.Files;
import java.nio.file.Path;
import java.util.ArrayList;
import java.util.Comparator;
import java.util.List;
import java.util.regex.Matcher;
import java.util.regex.Pattern;
import java.util.stream.Stream;
import javax.tools.ToolProvider;

/**
 * The examples of README.md, as they stand there: each call answers the number or name behind its //.
 * They are put into a class that gathers what is not as told, compiled and run.
 */
public final class ReadmeTest {
    private static final Pattern BLOCK = Pattern.compile("(?s)```java\n(.*?)```");
    private static final Pattern CALL = Pattern.compile("plan\\.(\\w+)\\((.*)\\); *// (-?[0-9]+|[A-Z]+)\\b.*");
    private static final Pattern FACE_NAME = Pattern.compile("public (?:int|long) (\\w+)\\(");
    private static final Pattern NAMED = Pattern.compile("`(\\w+)(?:\\([^`]*\\))?`|plan\\.(\\w+)\\(");

    private static int wrong = 0;

    private static void say(String fault) {
        wrong++;
        System.out.println(fault);
    }

    public static void main(String[] args) throws IOException, ReflectiveOperationException {
        String readme = Files.readString(Path.of("README.md"));
        everyCallIsNamed(readme);
        Path folder = Files.createTempDirectory("readme");
        int calls;
        try {
            calls = runExamples(readme, folder);
        } finally {
            clear(folder);
        }
        System.out.println(wrong == 0 ? calls + " calls of README.md answer as told there" : wrong + " faults");
        if (wrong != 0) {
            System.exit(1);
        }
    }

    private static void clear(Path folder) throws IOException {
        try (Stream<Path> all = Files.walk(folder)) {
            for (Path path : all.sorted(Comparator.reverseOrder()).toList()) {
                Files.delete(path);
            }
        }
    }

    private static void everyCallIsNamed(String readme) throws IOException {
        List<String> named = new ArrayList<>();
        Matcher names = NAMED.matcher(readme);
        while (names.find()) {
            named.add(names.group(1) == null ? names.group(2) : names.group(1));
        }
        Matcher face = FACE_NAME.matcher(Files.readString(Path.of("src/main/java/TickPlans.java")));
        while (face.find()) {
            if (!named.contains(face.group(1))) {
                say("README.md does not tell of " + face.group(1));
            }
        }
    }

    private static int runExamples(String readme, Path folder) throws IOException, ReflectiveOperationException {
        StringBuilder body = new StringBuilder();
        int calls = 0;
        Matcher blocks = BLOCK.matcher(readme);
        while (blocks.find()) {
            for (String line : blocks.group(1).split("\n")) {
                Matcher call = CALL.matcher(line);
                if (call.matches()) {
                    calls++;
                    body.append(asked(call.group(1), call.group(2), call.group(3)));
                } else {
                    body.append(line).append('\n');
                }
            }
        }
        if (calls == 0) {
            say("README.md has no examples");
        }
        for (Object fault : compileAndRun(body.toString(), folder)) {
            say(fault.toString());
        }
        return calls;
    }

    private static String asked(String name, String arguments, String want) {
        String due = Character.isLetter(want.charAt(0)) ? "TickPlans." + want : want + "L";
        return "seek(faults, \"" + name + "(" + arguments + ")\", " + due + ", plan." + name + "(" + arguments + "));\n";
    }

    private static List<?> compileAndRun(String body, Path folder) throws IOException, ReflectiveOperationException {
        String text = "public final class Examples {\n"
                + "static void seek(java.util.List<String> faults, String call, long want, long got) {\n"
                + "if (got != want) { faults.add(\"README.md: \" + call + \" answered \" + got + \", told is \" + want); }\n}\n"
                + "public static java.util.List<String> run() {\n"
                + "java.util.List<String> faults = new java.util.ArrayList<>();\n" + body + "return faults;\n}\n}\n";
        Path file = Files.writeString(folder.resolve("Examples.java"), text);
        String classes = System.getProperty("java.class.path");
        if (ToolProvider.getSystemJavaCompiler().run(null, null, null,
                "-cp", classes, "-d", folder.toString(), file.toString()) != 0) {
            return List.of("the examples of README.md do not compile");
        }
        URL[] where = {folder.toUri().toURL()};
        try (URLClassLoader loader = new URLClassLoader(where, TickPlans.class.getClassLoader())) {
            return (List<?>) loader.loadClass("Examples").getMethod("run").invoke(null);
        }
    }
}
