import java.io.IOException;
import java.io.UncheckedIOException;
import java.lang.reflect.InvocationTargetException;
import java.lang.reflect.Method;
import java.lang.reflect.Modifier;
import java.net.URL;
import java.net.URLClassLoader;
import java.nio.file.Files;
import java.nio.file.Path;
import java.util.ArrayList;
import java.util.List;
import java.util.regex.Matcher;
import java.util.regex.Pattern;
import javax.tools.ToolProvider;

/** The example of README.md: it runs as it stands, and each answer written there is given. */
public final class ReadmeTest {
    private static final Checks CHECKS = new Checks();
    private static final Path README = Path.of("README.md");
    private static final String NAME = "Example";
    /** A call, perhaps kept in a variable, and behind it the answer, perhaps with a remark. */
    private static final Pattern ANSWERED = Pattern.compile(
            "\\s*(?:int (?<kept>\\w+) = )?(?<call>\\w.*);\\s+// (?<due>.*?)(?:: .*)?");
    /** All but document, whose answers read(..) puts together. */
    private static final Pattern CALL = Pattern.compile(
            "\\s*(int \\w+ = )?(house\\.(?!document)|read\\().*");
    private static final String THROWS = "throws ";

    private static final List<String> GOT = new ArrayList<>();

    public static void main(String[] args) {
        CHECKS.holds("README.md: the example runs as it stands", ReadmeTest::runsAsItStands);
        CHECKS.holds("README.md: the example has these answers", ReadmeTest::answers);
        CHECKS.holds("README.md: the example uses the whole face", ReadmeTest::wholeFace);
        CHECKS.end("readme");
    }

    /** Called by the example, as the answers come. */
    public static void told(Object answer) {
        GOT.add(String.valueOf(answer));
    }

    private static List<String> example() {
        try {
            List<String> lines = Files.readAllLines(README);
            int first = lines.indexOf("```java") + 1;
            List<String> rest = lines.subList(first, lines.size());
            return rest.subList(0, rest.indexOf("```"));
        } catch (IOException e) {
            throw new UncheckedIOException(e);
        }
    }

    private static void runsAsItStands() {
        run(example());
        CHECKS.same("answers told", GOT.size(), 0);
    }

    private static void answers() {
        List<String> lines = new ArrayList<>();
        List<String> calls = new ArrayList<>();
        List<String> due = new ArrayList<>();
        for (String line : example()) {
            Matcher answered = ANSWERED.matcher(line);
            if (answered.matches()) {
                calls.add(answered.group("call"));
                due.add(answered.group("due"));
                lines.add(telling(answered));
            } else {
                CHECKS.same("no answer behind" + line, CALL.matcher(line).matches(), false);
                lines.add(line);
            }
        }
        run(lines);
        CHECKS.same("the number of answers", GOT.size(), due.size());
        for (int i = 0; i < Math.min(GOT.size(), due.size()); i++) {
            CHECKS.same(calls.get(i), GOT.get(i), due.get(i));
        }
    }

    /** The same line, made to tell its answer. */
    private static String telling(Matcher line) {
        String call = line.group("call");
        if (line.group("due").startsWith(THROWS)) {
            return "try { ReadmeTest.told(" + call + "); } catch (RuntimeException e) {"
                    + " ReadmeTest.told(\"" + THROWS + "\" + e.getClass().getSimpleName());"
                    + " throw e; }";
        }
        String kept = line.group("kept");
        return kept == null ? "ReadmeTest.told(" + call + ");"
                : "int " + kept + " = " + call + "; ReadmeTest.told(" + kept + ");";
    }

    private static void run(List<String> lines) {
        try {
            Path place = Files.createTempDirectory("readme");
            try {
                compile(Files.write(place.resolve(NAME + ".java"), lines));
                runMain(place);
            } finally {
                Files.deleteIfExists(place.resolve(NAME + ".java"));
                Files.deleteIfExists(place.resolve(NAME + ".class"));
                Files.delete(place);
            }
        } catch (IOException e) {
            throw new UncheckedIOException(e);
        }
    }

    private static void compile(Path source) {
        int failed = ToolProvider.getSystemJavaCompiler().run(null, null, null, "--release", "17",
                "-proc:none", "-d", source.getParent().toString(), "-cp",
                System.getProperty("java.class.path"), source.toString());
        if (failed != 0) {
            throw new IllegalStateException("it does not compile");
        }
    }

    private static void runMain(Path place) throws IOException {
        URL[] places = {place.toUri().toURL()};
        try (URLClassLoader loader = new URLClassLoader(places)) {
            Method main = loader.loadClass(NAME).getMethod("main", String[].class);
            main.invoke(null, (Object) new String[0]);
        } catch (InvocationTargetException e) {
            throw new IllegalStateException(e.getCause());
        } catch (ReflectiveOperationException e) {
            throw new IllegalStateException(e);
        }
    }

    private static void wholeFace() {
        String example = String.join("\n", example());
        for (Method method : TicketHouse.class.getDeclaredMethods()) {
            if (Modifier.isPublic(method.getModifiers())) {
                String call = "house." + method.getName() + "(";
                CHECKS.same(call + "..) in the example", example.contains(call), true);
            }
        }
    }
}
