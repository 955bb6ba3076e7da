import java.io.IOException;
import java.lang.reflect.InvocationTargetException;
import java.lang.reflect.Method;
import java.lang.reflect.Modifier;
import java.net.URL;
import java.net.URLClassLoader;
import java.nio.file.DirectoryStream;
import java.nio.file.Files;
import java.nio.file.Path;
import java.util.ArrayList;
import java.util.Arrays;
import java.util.List;
import java.util.TreeSet;
import java.util.regex.Matcher;
import java.util.regex.Pattern;
import javax.tools.JavaCompiler;
import javax.tools.ToolProvider;

/**
 * What README.md says. The lines of Java that it shows are compiled as they stand there, as one run, and each
 * call is held against the answer behind it. Runs in the project's directory, as .ci/run does.
 */
public final class ReadmeTest {
    private static final Path README = Path.of("README.md");
    private static final Path TESTS = Path.of("src/test/java");
    private static final String COMMAND = ".ci/run";

    private static final String FIRST_LINE = "IndexRanges x = new IndexRanges();";
    private static final Pattern SHOWN =
        Pattern.compile("(?:(int|long) (\\w+) = )?(x\\.(\\w+)\\(.*\\)); *// (?:throws (\\w+)|(-?\\d+))(?:: .+)?");

    private static int wrong;

    private static void check(boolean well, String what) {
        if (!well) {
            wrong++;
            System.out.println(what);
        }
    }

    /** Called by the run that is made of README.md's lines. */
    public static void due(String line, long want, long got) {
        check(got == want, "README.md: " + line + " -- answered " + got);
    }

    /** Likewise; what was thrown is null if nothing was. */
    public static void dueThrow(String line, String want, RuntimeException thrown) {
        String got = thrown == null ? "nothing" : thrown.getClass().getSimpleName();
        check(got.equals(want), "README.md: " + line + " -- threw " + got);
    }

    // ---- the calls that are shown

    private static List<String> shownLines(List<String> readme) {
        List<String> shown = new ArrayList<>();
        boolean java = false;
        for (String line : readme) {
            if (line.startsWith("```")) {
                java = line.equals("```java");
            } else if (java && !line.isEmpty()) {
                shown.add(line);
            }
        }
        return shown;
    }

    private static String quoted(String text) {
        return "\"" + text.replace("\\", "\\\\").replace("\"", "\\\"") + "\"";
    }

    private static String statement(String line, Matcher shown) {
        String name = shown.group(2);
        String call = shown.group(3);
        if (shown.group(5) != null) {
            return "thrown = null; try { " + call + "; } catch (RuntimeException e) { thrown = e; }"
                + " ReadmeTest.dueThrow(" + quoted(line) + ", " + quoted(shown.group(5)) + ", thrown);\n";
        }
        String declared = name == null ? "" : shown.group(1) + " " + name + " = " + call + "; ";
        String got = name == null ? call : name;
        return declared + "ReadmeTest.due(" + quoted(line) + ", " + shown.group(6) + "L, " + got + ");\n";
    }

    /** A class that makes the calls, or null if a line can't be read as one. */
    private static String programOf(List<String> shown, TreeSet<String> called) {
        StringBuilder all = new StringBuilder("public final class ReadmeRun {\npublic static void run() {\n");
        all.append("RuntimeException thrown;\n").append(FIRST_LINE).append('\n');
        check(!shown.isEmpty() && shown.get(0).equals(FIRST_LINE), "README.md shows no " + FIRST_LINE + " at first");
        for (String line : shown.subList(Math.min(1, shown.size()), shown.size())) {
            Matcher m = SHOWN.matcher(line);
            if (!m.matches()) {
                check(false, "README.md: can't be read as a call with its answer: " + line);
                return null;
            }
            called.add(m.group(4));
            all.append(statement(line, m));
        }
        return all.append("}\n}\n").toString();
    }

    private static void run(String program, Path directory) throws IOException, ReflectiveOperationException {
        Path file = directory.resolve("ReadmeRun.java");
        Files.writeString(file, program);
        JavaCompiler javac = ToolProvider.getSystemJavaCompiler();
        String path = System.getProperty("java.class.path");
        int answer = javac.run(null, null, null, "--release", "17", "-cp", path, "-d", directory.toString(), file.toString());
        check(answer == 0, "README.md: what it shows does not compile");
        if (answer != 0) {
            return;
        }
        try (URLClassLoader loader = new URLClassLoader(new URL[] {directory.toUri().toURL()})) {
            loader.loadClass("ReadmeRun").getMethod("run").invoke(null);
        } catch (InvocationTargetException e) {
            check(false, "README.md: a call threw " + e.getCause() + ", which it does not say");
        }
    }

    private static void callsAnswerWhatIsSaid(List<String> readme) throws IOException, ReflectiveOperationException {
        TreeSet<String> called = new TreeSet<>();
        String program = programOf(shownLines(readme), called);
        if (program == null) {
            return;
        }
        Path directory = Files.createTempDirectory("readme");
        try {
            run(program, directory);
        } finally {
            for (String name : new String[] {"ReadmeRun.java", "ReadmeRun.class", ""}) {
                Files.deleteIfExists(directory.resolve(name));
            }
        }
        check(called.equals(face()), "README.md shows the calls " + called + ", the face has " + face());
    }

    private static TreeSet<String> face() {
        TreeSet<String> names = new TreeSet<>();
        for (Method m : IndexRanges.class.getDeclaredMethods()) {
            if (Modifier.isPublic(m.getModifiers())) {
                names.add(m.getName());
            }
        }
        return names;
    }

    // ---- what it says beside them

    private static void codesAreThose(String text) {
        for (String code : Arrays.asList("`UNKNOWN` " + IndexRanges.UNKNOWN, "`OUTSIDE` " + IndexRanges.OUTSIDE,
                "`STATE` " + IndexRanges.STATE, "`ROOM` " + IndexRanges.ROOM, IndexRanges.MANY + " (`MANY`)")) {
            check(text.contains(code), "README.md does not say " + code);
        }
    }

    private static void commandIsThere(List<String> readme) {
        List<String> commands = new ArrayList<>();
        for (String line : readme) {
            if (line.startsWith("    ")) {
                commands.add(line.trim());
            }
        }
        check(commands.equals(Arrays.asList(COMMAND)), "README.md names the commands " + commands);
        check(Files.isExecutable(Path.of(COMMAND)), COMMAND + " can't be run");
    }

    private static void classesAreThose(String text) throws IOException {
        TreeSet<String> told = new TreeSet<>();
        Matcher m = Pattern.compile("`(\\w+Test)`").matcher(text);
        while (m.find()) {
            told.add(m.group(1));
        }
        TreeSet<String> there = new TreeSet<>();
        try (DirectoryStream<Path> files = Files.newDirectoryStream(TESTS, "*Test.java")) {
            for (Path file : files) {
                there.add(file.getFileName().toString().replace(".java", ""));
            }
        }
        check(told.equals(there), "README.md tells of the tests " + told + ", there are " + there);
    }

    public static void main(String[] args) throws IOException, ReflectiveOperationException {
        List<String> readme = Files.readAllLines(README);
        String text = String.join(" ", readme);
        callsAnswerWhatIsSaid(readme);
        codesAreThose(text);
        commandIsThere(readme);
        classesAreThose(text);
        if (wrong != 0) {
            System.out.println(wrong + " wrong");
            System.exit(1);
        }
        System.out.println("README.md says what is so");
    }
}
