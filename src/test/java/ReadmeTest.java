import java.io.IOException;
import java.lang.reflect.Method;
import java.lang.reflect.Modifier;
import java.net.URL;
import java.net.URLClassLoader;
import java.nio.file.Files;
import java.nio.file.Path;
import java.util.Comparator;
import java.util.List;
import java.util.regex.Matcher;
import java.util.regex.Pattern;
import java.util.stream.Stream;
import javax.tools.ToolProvider;

/** Compiles the Java of README.md as it is written there, and compares each call's answer with the number behind it. */
public final class ReadmeTest {
    private static final Checks C = new Checks("ReadmeTest");
    private static final Pattern BLOCK = Pattern.compile("(?s)```java\n(.*?)```");
    private static final Pattern CALL = Pattern.compile("(x\\.(\\w+)\\(.*\\)); +// (-?\\d+)\\b.*");

    private final StringBuilder members = new StringBuilder();
    private final StringBuilder steps = new StringBuilder();

    public static void main(String[] args) throws IOException, ReflectiveOperationException {
        String readme = Files.readString(Path.of("README.md"));
        everyCallIsShown(readme);
        ReadmeTest test = new ReadmeTest();
        test.read(readme);
        Path room = Files.createTempDirectory("readme");
        try {
            test.compile(room);
            compare(room);
        } finally {
            remove(room);
        }
        C.end();
    }

    private static void everyCallIsShown(String readme) {
        for (Method method : RiverModel.class.getDeclaredMethods()) {
            if (Modifier.isPublic(method.getModifiers())) {
                C.due("README.md shows " + method.getName(), readme.contains("\nx." + method.getName() + "(") ? 1 : 0, 1);
            }
        }
    }

    private void read(String readme) {
        Matcher blocks = BLOCK.matcher(readme);
        while (blocks.find()) {
            String block = blocks.group(1);
            if (block.startsWith("static ")) {
                members.append(block);
            } else {
                block.lines().forEach(this::readLine);
            }
        }
    }

    /** A call of the face has to have its answer behind it. */
    private void readLine(String line) {
        Matcher call = CALL.matcher(line);
        if (call.matches()) {
            steps.append("rows.add(new Object[] {\"").append(call.group(1)).append("\", (long) ").append(call.group(1)).append(", ")
                .append(call.group(3)).append("L});\n");
        } else {
            C.due("the answer stands behind " + line, line.startsWith("x.") ? 0 : 1, 1);
            steps.append(line).append('\n');
        }
    }

    private void compile(Path room) throws IOException {
        Path file = room.resolve("ReadmeCode.java");
        Files.writeString(file, "public final class ReadmeCode {\n" + members + "public static java.util.List<Object[]> rows() {\n"
            + "java.util.List<Object[]> rows = new java.util.ArrayList<>();\n" + steps + "return rows;\n}\n}\n");
        int failed = ToolProvider.getSystemJavaCompiler().run(null, null, null,
            "-cp", System.getProperty("java.class.path"), "-d", room.toString(), file.toString());
        C.due("the Java of README.md compiles", failed, 0);
    }

    private static void compare(Path room) throws IOException, ReflectiveOperationException {
        URL[] places = {room.toUri().toURL()};
        try (URLClassLoader loader = new URLClassLoader(places, ReadmeTest.class.getClassLoader())) {
            List<?> rows = (List<?>) loader.loadClass("ReadmeCode").getMethod("rows").invoke(null);
            for (Object row : rows) {
                Object[] cells = (Object[]) row;
                C.due("README.md: " + cells[0], (Long) cells[1], (Long) cells[2]);
            }
        }
    }

    private static void remove(Path room) throws IOException {
        try (Stream<Path> files = Files.walk(room)) {
            for (Path file : files.sorted(Comparator.reverseOrder()).toList()) {
                Files.delete(file);
            }
        }
    }
}
