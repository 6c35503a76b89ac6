import java.io.ByteArrayOutputStream;
import java.io.PrintStream;
import java.lang.reflect.Method;
import java.net.URL;
import java.net.URLClassLoader;
import java.nio.charset.StandardCharsets;
import java.nio.file.Files;
import java.nio.file.Path;
import java.util.regex.Matcher;
import java.util.regex.Pattern;
import java.util.stream.Stream;
import javax.tools.ToolProvider;

/** What README.md says of the class: its program builds, runs, prints and answers as is told there. */
public final class ReadmeTest {
    private static final int LOW = -1000000000;
    private static final Pattern PROGRAM = Pattern.compile("(?s)```java\n(.*?)```");
    private static final Pattern PRINTED = Pattern.compile("It prints\n\n    (.*)\n");
    private static final Pattern CALL = Pattern.compile(" *line\\.(\\w+)\\(([^()]*)\\); *// (-?\\d+): .*");
    private static final Pattern ERROR = Pattern.compile("\\| (-\\d+) \\| (\\w+) *\\| k (\\d) *\\|");

    public static void main(String[] args) throws Exception {
        String page = Files.readString(Path.of("README.md"), StandardCharsets.UTF_8);
        String program = first(PROGRAM, page);
        callsAnswerAsTold(program);
        programPrintsAsTold(program, first(PRINTED, page));
        errorsAreThoseOfTheDocument(page);
        answersOfAnyNumberAreNotCounted();
        allTestsAreNamed(page);
        Due.end();
    }

    private static String first(Pattern pattern, String page) {
        Matcher found = pattern.matcher(page);
        boolean isThere = found.find();
        Due.isTrue("README.md has " + pattern, isThere);
        return isThere ? found.group(1) : "";
    }

    private static void callsAnswerAsTold(String program) throws Exception {
        NeedleLine line = new NeedleLine();
        int calls = 0;
        for (String row : program.split("\n")) {
            Matcher call = CALL.matcher(row);
            if (call.matches()) {
                Due.due("README.md: " + row.trim(), answer(line, call.group(1), call.group(2)), Long.parseLong(call.group(3)));
                calls++;
            } else {
                Due.isTrue("README.md tells the answer of " + row.trim(), !row.trim().startsWith("line."));
            }
        }
        Due.isTrue("README.md has a run of calls", calls >= 10);
    }

    private static long answer(NeedleLine line, String name, String arguments) throws Exception {
        String[] texts = arguments.isEmpty() ? new String[0] : arguments.split(", ");
        for (Method method : NeedleLine.class.getMethods()) {
            if (method.getName().equals(name) && method.getParameterCount() == texts.length) {
                Object[] values = new Object[texts.length];
                for (int i = 0; i < values.length; i++) {
                    long value = Long.decode(texts[i].replace("L", ""));
                    values[i] = method.getParameterTypes()[i] == long.class ? (Object) value : (Object) (int) value;
                }
                return ((Number) method.invoke(line, values)).longValue();
            }
        }
        throw new IllegalArgumentException("no call " + name + "(" + arguments + ")");
    }

    /** Builds the program as it stands, to the class that stands in the class path. */
    private static void programPrintsAsTold(String program, String due) throws Exception {
        Path folder = Files.createTempDirectory("readme");
        try {
            Path source = Files.writeString(folder.resolve("Yours.java"), program);
            int built = ToolProvider.getSystemJavaCompiler().run(null, null, null, "-cp",
                    System.getProperty("java.class.path"), "-d", folder.toString(), source.toString());
            Due.due("building the program of README.md", built, 0);
            if (built == 0) {
                String printed = printed(folder);
                Due.isTrue("README.md's program prints \"" + due + "\", not \"" + printed + "\"", printed.equals(due));
            }
        } finally {
            removeAll(folder);
        }
    }

    private static String printed(Path folder) throws Exception {
        PrintStream out = System.out;
        ByteArrayOutputStream bytes = new ByteArrayOutputStream();
        try (URLClassLoader loader = new URLClassLoader(new URL[] {folder.toUri().toURL()})) {
            System.setOut(new PrintStream(bytes, true, StandardCharsets.UTF_8));
            loader.loadClass("Yours").getMethod("main", String[].class).invoke(null, (Object) new String[0]);
        } finally {
            System.setOut(out);
        }
        return bytes.toString(StandardCharsets.UTF_8).trim();
    }

    private static void removeAll(Path folder) throws Exception {
        try (Stream<Path> files = Files.list(folder)) {
            for (Path file : files.toList()) {
                Files.delete(file);
            }
        }
        Files.delete(folder);
    }

    private static void errorsAreThoseOfTheDocument(String page) {
        Matcher row = ERROR.matcher(page);
        StringBuilder told = new StringBuilder();
        int rows = 0;
        while (row.find()) {
            rows++;
            Due.due(row.group(2) + ": k", Integer.parseInt(row.group(3)), rows);
            Due.due(row.group(2) + ": answer", Integer.parseInt(row.group(1)), LOW - rows);
            told.append(rows > 1 ? ", " : "").append("LOW - ").append(rows).append(' ').append(row.group(2));
        }
        Due.sentence(told.toString());
        Due.due("ERRORS in README.md", rows, 6);
    }

    /** Each of the four calls that answer any number, with an answer that is like an ERROR's. */
    private static void answersOfAnyNumberAreNotCounted() {
        NeedleLine line = new NeedleLine();
        line.seed(LOW - 1);
        line.tree(1, 0, 100100);
        line.slip(0, 0, 0);
        Due.due("count(7)", line.count(7), LOW - 1);
        Due.due("seed(0)", line.seed(0), LOW - 1);
        Due.due("dig(0, LOW - 1, 0, 0)", line.dig(0, LOW - 1, 0, 0), LOW - 1);
        Due.due("voice(0, 0, LOW - 6)", line.voice(0, 0, LOW - 6), LOW - 6);
        Due.due("told(1) behind answers that are no ERRORS", line.told(1), 0);
        Due.due("told(6) behind answers that are no ERRORS", line.told(6), 0);
        Due.due("dig(1, 0, 0, 0)", line.dig(1, 0, 0, 0), LOW - 1);
        Due.due("voice(0, 3, 5)", line.voice(0, 3, 5), LOW - 6);
        Due.due("told(1) behind an ERROR", line.told(1), 1);
        Due.due("told(6) behind an ERROR", line.told(6), 1);
    }

    private static void allTestsAreNamed(String page) throws Exception {
        try (Stream<Path> files = Files.list(Path.of("src/test/java"))) {
            for (Path file : files.toList()) {
                String name = file.getFileName().toString().replace(".java", "").replaceAll("^BoundsOf.*Test$", "BoundsOf..Test");
                Due.isTrue("README.md names " + name, !name.endsWith("Test") || page.contains("`" + name + "`"));
            }
        }
    }
}
