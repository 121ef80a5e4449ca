import java.io.IOException;
import java.lang.reflect.InvocationTargetException;
import java.net.URL;
import java.net.URLClassLoader;
import java.nio.file.Files;
import java.nio.file.Path;
import java.util.Arrays;
import java.util.Comparator;
import java.util.List;
import java.util.stream.Stream;
import javax.tools.ToolProvider;

/**
 * Boundary cases that no run of calls is known to reach: each is tried on a copy of the class in which
 * one line is another one, so that it can be reached. That the class itself has the document's number
 * is seen in its text.
 */
public final class VariantsTest {
    private static final int STATE = Cases.STATE;

    private static String source = "";
    private static Path folder;
    private static int made = 0;

    public static void main(String[] args) throws IOException {
        source = Files.readString(Path.of("src/main/java/TickPlans.java"));
        folder = Files.createTempDirectory("variants");
        try {
            Cases.sentence("Terms: Behind 400 ROUNDS: not LIVELY", VariantsTest::roundLimit);
            Cases.sentence("Terms: If some E is below -1000000000000, it ends: not LIVELY", VariantsTest::deepestEdge);
            Cases.sentence("Terms: If some W is below -1000000000000, it ends: not LIVELY", VariantsTest::deepestWait);
            Cases.sentence("Terms: t is not more than b's tick and E(b, it), summed", VariantsTest::tooLate);
            Cases.sentence("Promise 27: else -20 less the least LINK that is not kept", VariantsTest::brokenLinks);
        } finally {
            clear();
        }
        Cases.end();
    }

    private static void clear() throws IOException {
        try (Stream<Path> all = Files.walk(folder)) {
            for (Path path : all.sorted(Comparator.reverseOrder()).toList()) {
                Files.delete(path);
            }
        }
    }

    /** An object of a copy of the class in which a text that stands there once is another one. */
    private static final class Variant {
        private final Object plans;

        Variant(String text, String other) {
            int place = source.indexOf(text);
            if (place < 0 || source.indexOf(text, place + 1) >= 0) {
                throw new IllegalStateException("the class does not have this once: " + text);
            }
            plans = make(source.replace(text, other));
        }

        private static Object make(String text) {
            try {
                made++;
                Path home = Files.createDirectory(folder.resolve(String.valueOf(made)));
                Path file = Files.writeString(home.resolve("TickPlans.java"), text);
                if (ToolProvider.getSystemJavaCompiler().run(null, null, null, "-d", home.toString(), file.toString()) != 0) {
                    throw new IllegalStateException("a copy does not compile");
                }
                URL[] where = {home.toUri().toURL()};
                try (URLClassLoader loader = new URLClassLoader(where, ClassLoader.getPlatformClassLoader())) {
                    Class<?> copy = loader.loadClass("TickPlans");
                    for (Class<?> inside : copy.getDeclaredClasses()) {
                        loader.loadClass(inside.getName());
                    }
                    return copy.getConstructor().newInstance();
                }
            } catch (IOException | ReflectiveOperationException e) {
                throw new IllegalStateException(e);
            }
        }

        long call(String name, int... arguments) {
            Class<?>[] types = new Class<?>[arguments.length];
            Arrays.fill(types, int.class);
            Object[] values = Arrays.stream(arguments).boxed().toArray();
            try {
                return ((Number) plans.getClass().getMethod(name, types).invoke(plans, values)).longValue();
            } catch (InvocationTargetException e) {
                throw new IllegalStateException(name + " threw", e.getCause());
            } catch (ReflectiveOperationException e) {
                throw new IllegalStateException(e);
            }
        }

        void due(String call, long want, int... arguments) {
            String name = call.substring(call.lastIndexOf(' ') + 1);
            Cases.due(call, want, call(name, arguments));
        }
    }

    private static Variant withRounds(int limit) {
        return new Variant("ROUND_LIMIT = 400;", "ROUND_LIMIT = " + limit + ";");
    }

    /** Three ROUNDS make it LIVELY. */
    private static void tellCrossing(Variant x) {
        x.call("moments", 4);
        x.call("gift", 0, 1, 3, 6);
        x.call("gift", 2, 3, 1, 5);
        x.call("wish", 3, 1, 0, 100);
    }

    private static void roundLimit() {
        for (int limit : List.of(400, 4, 3)) {
            Variant x = withRounds(limit);
            tellCrossing(x);
            x.due("as many as it needs: lively", 1);
            x.due("rounds", 3);
        }
        Variant y = withRounds(2);
        tellCrossing(y);
        y.due("one too few: lively", 0);
        y.due("rounds", 2);
        y.due("edge", 0, 0, 1);
        y.due("wait", 0, 1, 0);
        y.due("start", STATE);
        y.call("undo");
        y.due("as many as it needs: lively", 1);
        y.due("rounds", 2);
    }

    private static Variant withDeepest(int number) {
        return new Variant("DEEPEST = -1000000000000L;", "DEEPEST = " + number + "L;");
    }

    private static void deepestEdge() {
        Variant x = withDeepest(-5);
        x.call("moments", 2);
        x.call("wish", 0, 1, 5, 9);
        x.due("E is as deep as can be: lively", 1);
        x.due("rounds", 1);
        x.call("tighten", 0, 6, 9);
        x.due("one deeper: lively", 0);
        x.due("it ends at once: rounds", 1);
        x.due("edge", 0, 1, 0);
    }

    private static void deepestWait() {
        for (int end = 0; end < 2; end++) {
            Variant x = withDeepest(-5);
            x.call("moments", 2);
            x.call("gift", 1 - end, end, 2, 5);
            x.due("W is as deep as can be: lively", 1);
            x.due("rounds", 2);
            x.call("tighten", 0, 2, 6);
            x.due("one deeper: lively", 0);
            x.due("it ends at once: rounds", 1);
            x.due("wait", 0, end, 0);
        }
    }

    /** In this copy idle goes on though one MAY come. */
    private static void tooLate() {
        Variant x = new Variant("last = Math.min(last, firstTick(net, waits, m));", "last = Math.min(last, last);");
        x.call("moments", 2);
        x.call("wish", 0, 1, 3, 5);
        x.call("start");
        x.due("goOn", 1);
        x.due("idle", 4, 4);
        x.due("now", 5);
        x.due("at the last tick: may", 1, 1);
        x.due("idle", 1, 1);
        x.due("one tick late: may", 0, 1);
        x.due("it does not come: goOn", 0);
        x.due("came", Cases.NONE, 1);
        x.due("not all have come: check", 0);
    }

    /** In this copy a GIVEN MOMENT can come at any tick behind its GIFT's beginning. */
    private static Variant withAnyLength() {
        return new Variant("return ago >= net.giftLow(g) && ago <= net.giftHigh(g);", "return ago >= 0;");
    }

    private static void brokenLinks() {
        Variant x = withAnyLength();
        x.call("moments", 2);
        x.call("wish", 0, 1, 0, 9);
        x.call("gift", 0, 1, 2, 4);
        for (int length = 1; length <= 5; length++) {
            x.call("start");
            for (int tick = 0; tick < length; tick++) {
                x.call("goOn");
            }
            x.due("happen", 1, 1);
            x.due("length " + length + ": check", length < 2 || length > 4 ? -21 : 1);
        }
        x.call("tighten", 0, 2, 9);
        x.call("start");
        x.call("goOn");
        x.due("happen", 1, 1);
        x.due("the least of two: check", -20);
        fullOne();
    }

    private static void fullOne() {
        Variant x = withAnyLength();
        x.call("moments", 2);
        for (int l = 0; l < 59; l++) {
            x.call("wish", 0, 1, -9, 9);
        }
        x.call("gift", 0, 1, 2, 4);
        x.call("start");
        x.call("goOn");
        x.due("not all have come: check", 0);
        x.due("happen", 1, 1);
        x.due("the sixtieth: check", -79);
    }
}
