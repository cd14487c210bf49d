import java.io.File;
import java.io.IOException;
import java.lang.reflect.Method;
import java.lang.reflect.Modifier;
import java.net.URL;
import java.net.URLClassLoader;
import java.nio.file.Files;
import java.nio.file.Path;
import java.util.ArrayList;
import java.util.List;
import java.util.TreeSet;
import java.util.regex.Matcher;
import java.util.regex.Pattern;
import javax.tools.ToolProvider;

/**
 * What README.md shows compiles as it stands there, and each call answers what stands behind it. It
 * is run from the project's directory, as .ci/run does.
 */
public final class ReadmeTest {
    /** A call, perhaps kept in a variable, and behind it a number, true, false or what it throws. */
    private static final Pattern CALL = Pattern.compile(
            "(\\w+ \\w+ = )?(routes\\.(\\w+)\\(.*\\)); *// (throws (\\w+)|-?\\d+|true|false)(: .*)?");
    private static final Pattern NAMED = Pattern.compile("\\w+ (\\w+) = ");
    private static final Check CHECK = new Check("README.md: ");

    /** The generated program hands its answers in here. */
    public static void due(String call, Object got, String due) {
        CHECK.sameText(call, got.toString(), due);
    }

    public static void dueThrown(String call, String due, Runnable made) {
        String got = "nothing";
        try {
            made.run();
        } catch (RuntimeException e) {
            got = e.getClass().getSimpleName();
        }
        CHECK.sameText(call + " throws", got, due);
    }

    public static void main(String[] args) throws IOException, ReflectiveOperationException {
        String readme = Files.readString(Path.of("README.md"));
        List<String> shown = javaLines(readme);
        TreeSet<String> called = new TreeSet<>();
        String checked = checkedLines(shown, called);
        String source = "public final class Shown {\n"
                + "public static void asShown() {\n" + String.join("\n", shown) + "\n}\n"
                + "public static void checked() {\n" + checked + "}\n}\n";
        Method program = compiled(source);
        if (program != null) {
            program.invoke(null);
        }
        CHECK.sameText("calls that are shown", called.toString(), callsOfFace().toString());
        CHECK.same("names .ci/run", readme.contains("\n    .ci/run\n"), true);
        CHECK.same(".ci/run can be run", Files.isExecutable(Path.of(".ci/run")), true);
        CHECK.end();
    }

    private static List<String> javaLines(String readme) {
        List<String> lines = new ArrayList<>();
        boolean inside = false;
        for (String line : readme.split("\n")) {
            if (line.startsWith("```")) {
                inside = line.equals("```java");
            } else if (inside) {
                lines.add(line);
            }
        }
        return lines;
    }

    private static String checkedLines(List<String> shown, TreeSet<String> called) {
        StringBuilder checked = new StringBuilder();
        for (String line : shown) {
            Matcher call = CALL.matcher(line);
            if (call.matches()) {
                called.add(call.group(3));
                checked.append(checkedCall(call)).append('\n');
            } else {
                CHECK.same("an answer stands behind each call: " + line, line.contains("routes."), false);
                checked.append(line).append('\n');
            }
        }
        return checked.toString();
    }

    private static String checkedCall(Matcher line) {
        String call = line.group(2);
        String quoted = "\"" + call + "\"";
        if (line.group(5) != null) {
            return "ReadmeTest.dueThrown(" + quoted + ", \"" + line.group(5) + "\", () -> " + call + ");";
        }
        String due = "\"" + line.group(4) + "\"";
        if (line.group(1) == null) {
            return "ReadmeTest.due(" + quoted + ", " + call + ", " + due + ");";
        }
        String variable = NAMED.matcher(line.group(1)).replaceAll("$1");
        return line.group(1) + call + "; ReadmeTest.due(" + quoted + ", " + variable + ", " + due + ");";
    }

    /** The method that checks, or null if the source does not compile. */
    private static Method compiled(String source) throws IOException, ReflectiveOperationException {
        Path room = Files.createTempDirectory("readme");
        Path file = room.resolve("Shown.java");
        try {
            Files.writeString(file, source);
            int faults = ToolProvider.getSystemJavaCompiler().run(null, null, null, "--release", "17",
                    "-Xlint:all", "-Werror", "-cp", System.getProperty("java.class.path"),
                    "-d", room.toString(), file.toString());
            CHECK.same("faults of the compiler", faults, 0);
            return faults == 0 ? methodOf(room) : null;
        } finally {
            remove(room);
        }
    }

    private static Method methodOf(Path room) throws IOException, ReflectiveOperationException {
        URL[] places = {room.toUri().toURL()};
        try (URLClassLoader loader = new URLClassLoader(places, ReadmeTest.class.getClassLoader())) {
            return loader.loadClass("Shown").getMethod("checked");
        }
    }

    private static void remove(Path room) {
        for (File file : room.toFile().listFiles()) {
            file.delete();
        }
        room.toFile().delete();
    }

    private static TreeSet<String> callsOfFace() {
        TreeSet<String> names = new TreeSet<>();
        for (Method method : GlobalRoutes.class.getDeclaredMethods()) {
            if (Modifier.isPublic(method.getModifiers())) {
                names.add(method.getName());
            }
        }
        return names;
    }
}
