import java.io.IOException;
import java.lang.reflect.Method;
import java.lang.reflect.Modifier;
import java.net.URL;
import java.net.URLClassLoader;
import java.nio.file.Files;
import java.nio.file.Path;
import java.util.ArrayList;
import java.util.Comparator;
import java.util.List;
import java.util.regex.Matcher;
import java.util.regex.Pattern;
import java.util.stream.Stream;
import javax.tools.JavaCompiler;
import javax.tools.ToolProvider;

/**
 * README.md shows what the class answers. Its blocks of Java are read from the file itself and compiled, so
 * that neither a changed answer nor a changed README can go by.
 */
public final class ReadmeTests {
    private static final Path README = Path.of("README.md");
    private static final String THROWS = "throws ArithmeticException";

    /** A line: perhaps a variable's type and name, the expression, and the answer up to a colon. */
    private static final Pattern CALL =
        Pattern.compile("(?:(int|long|double) (\\w+) = )?(.*\\brules\\.\\w+\\(.*\\));\\s*// ([^:]+)(?::.*)?");
    private static final String NEW_OBJECT = "DefaultRules rules = new DefaultRules();";

    private static int wrong = 0;
    private static int calls = 0;
    private static int blocks = 0;
    private static int throwing = 0;

    private static void complain(String text) {
        wrong++;
        System.out.println("README.md: " + text);
    }

    // ---- what the compiled blocks call

    public static void due(int line, long got, long want) {
        calls++;
        if (got != want) {
            complain("line " + line + " answered " + got + ", but it says " + want);
        }
    }

    public static void due(int line, double got, double want) {
        calls++;
        if (Double.compare(got, want) != 0) {
            complain("line " + line + " answered " + got + ", but it says " + want);
        }
    }

    public static void dueThrow(int line, boolean thrown) {
        calls++;
        throwing++;
        if (!thrown) {
            complain("line " + line + " did not throw");
        }
    }

    // ---- from README.md to Java

    private static String classOf(List<String> lines) {
        StringBuilder text = new StringBuilder("public final class ReadmeCalls {\n");
        boolean inside = false;
        for (int i = 0; i < lines.size(); i++) {
            String line = lines.get(i);
            if (!inside && line.equals("```java")) {
                inside = true;
                blocks++;
                text.append("    public static void block").append(blocks).append("() {\n");
                if (i + 1 >= lines.size() || !lines.get(i + 1).equals(NEW_OBJECT)) {
                    complain("line " + (i + 2) + " does not make an object");
                }
            } else if (inside && line.equals("```")) {
                inside = false;
                text.append("    }\n");
            } else if (inside) {
                text.append(statementsOf(i + 1, line));
            }
        }
        return text.append("}\n").toString();
    }

    private static String statementsOf(int number, String line) {
        if (line.equals(NEW_OBJECT)) {
            return "        " + line + "\n";
        }
        Matcher m = CALL.matcher(line);
        if (!m.matches()) {
            complain("line " + number + " is no call with its answer: " + line);
            return "";
        }
        String answer = m.group(4).trim();
        String expression = m.group(3);
        if (answer.equals(THROWS)) {
            return "        { boolean thrown = false; try { " + expression + "; }"
                + " catch (ArithmeticException e) { thrown = true; }"
                + " ReadmeTests.dueThrow(" + number + ", thrown); }\n";
        }
        String kept = "";
        String got = expression;
        if (m.group(1) != null) {
            kept = "        " + m.group(1) + " " + m.group(2) + " = " + expression + ";\n";
            got = m.group(2);
        }
        return kept + "        ReadmeTests.due(" + number + ", " + got + ", " + answer + ");\n";
    }

    // ---- compiling and running it

    private static void makeCalls(String text) throws Exception {
        Path room = Files.createTempDirectory("readme");
        try {
            Path file = room.resolve("ReadmeCalls.java");
            Files.writeString(file, text);
            JavaCompiler javac = ToolProvider.getSystemJavaCompiler();
            if (javac == null) {
                complain("no compiler is at hand");
                return;
            }
            String ours = System.getProperty("java.class.path");
            int code = javac.run(null, null, null, "-cp", ours, "-d", room.toString(), file.toString());
            if (code != 0) {
                complain("the blocks do not compile:\n" + text);
                return;
            }
            runBlocks(room);
        } finally {
            remove(room);
        }
    }

    private static void runBlocks(Path room) throws Exception {
        URL[] place = {room.toUri().toURL()};
        try (URLClassLoader loader = new URLClassLoader(place, ReadmeTests.class.getClassLoader())) {
            Class<?> made = loader.loadClass("ReadmeCalls");
            for (int b = 1; b <= blocks; b++) {
                made.getMethod("block" + b).invoke(null);
            }
        }
    }

    private static void remove(Path room) throws IOException {
        try (Stream<Path> inside = Files.walk(room)) {
            for (Path p : inside.sorted(Comparator.reverseOrder()).toList()) {
                Files.delete(p);
            }
        }
    }

    // ---- what README.md must have

    private static void showsEveryCall(String text) {
        for (Method m : DefaultRules.class.getDeclaredMethods()) {
            if (Modifier.isPublic(m.getModifiers()) && !text.contains("rules." + m.getName() + "(")) {
                complain("it does not show " + m.getName());
            }
        }
        if (!text.contains("DefaultRules.NOTHING")) {
            complain("it does not show NOTHING");
        }
        if (throwing == 0) {
            complain("it does not show when value throws");
        }
    }

    private static void namesEveryTest(List<String> lines) throws IOException {
        List<String> missing = new ArrayList<>();
        try (Stream<Path> files = Files.list(Path.of("src/test/java"))) {
            for (Path p : files.toList()) {
                String name = p.getFileName().toString().replace(".java", "");
                if (lines.stream().noneMatch(line -> line.startsWith("- `" + name + "`:"))) {
                    missing.add(name);
                }
            }
        }
        if (!missing.isEmpty()) {
            complain("it does not name the tests " + missing);
        }
        if (!lines.contains(".ci/run")) {
            complain("it does not say how the tests are run");
        }
    }

    public static void main(String[] args) throws Exception {
        List<String> lines = Files.readAllLines(README);
        String text = classOf(lines);
        makeCalls(text);
        showsEveryCall(text);
        namesEveryTest(lines);
        if (wrong != 0) {
            System.exit(1);
        }
        System.out.println("ReadmeTests: all " + calls + " calls answer as README.md says");
    }
}
