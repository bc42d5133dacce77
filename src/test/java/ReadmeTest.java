import java.io.IOException;
import java.lang.reflect.Method;
import java.lang.reflect.Modifier;
import java.net.URL;
import java.net.URLClassLoader;
import java.nio.file.Files;
import java.nio.file.Path;
import java.util.ArrayList;
import java.util.List;
import java.util.regex.Matcher;
import java.util.regex.Pattern;
import java.util.stream.Stream;
import javax.tools.JavaCompiler;
import javax.tools.ToolProvider;

/**
 * README.md: the calls that it shows compile as they stand there and answer as it says behind them;
 * it shows each method of the class, and names each test and the way to run them.
 */
public final class ReadmeTest {
    private static final Path README = Path.of("README.md");
    private static final Path TESTS = Path.of("src", "test", "java");
    private static final String SCRIPT = ".ci/run";
    private static final String MADE = "ReadmeUse";
    private static final String OUT = "throws IndexOutOfBoundsException";
    private static final String ILLEGAL = "throws IllegalArgumentException";
    /** The variable that takes the answer, if there is one, and the call. */
    private static final Pattern CALL = Pattern.compile("(?:(?:int|long|boolean) (\\w+) = )?(x\\.(\\w+)\\(.*\\));");
    private static final Pattern ANSWER = Pattern.compile("-> ([^:]+)(?::.*)?");

    public static void main(String[] args) throws Exception {
        List<String> lines = Files.readAllLines(README);
        List<String> shown = blocks(lines, "java");
        Check.due("README.md shows Java", !shown.isEmpty(), true);
        runAsSaid(shown);
        showsEachMethod(shown);
        namesTheTests(lines);
        Check.end("ReadmeTest");
    }

    /** The lines of all blocks of this language, one block behind the other. */
    private static List<String> blocks(List<String> lines, String language) {
        List<String> inside = new ArrayList<>();
        String open = null;
        for (String line : lines) {
            if (line.startsWith("```")) {
                open = open == null ? line.substring(3).trim() : null;
            } else if (language.equals(open)) {
                inside.add(line);
            }
        }
        Check.due("the last block of README.md ends", open == null, true);
        return inside;
    }

    private static void runAsSaid(List<String> shown) throws Exception {
        Path folder = Files.createTempDirectory("readme");
        try {
            Path source = folder.resolve(MADE + ".java");
            Files.writeString(source, program(shown));
            if (compiles(source, folder)) {
                run(folder);
            } else {
                Check.tell("the calls that README.md shows do not compile");
            }
        } finally {
            remove(folder);
        }
    }

    private static String program(List<String> shown) {
        StringBuilder text = new StringBuilder("public final class " + MADE + " {\n");
        text.append("static void asShown() {\n").append(String.join("\n", shown)).append("\n}\n");
        text.append("public static void compared() {\n");
        for (String line : shown) {
            text.append(compared(line)).append('\n');
        }
        return text.append("}\n}\n").toString();
    }

    /** The line, and a check of its answer when it is a call. */
    private static String compared(String line) {
        int at = line.indexOf("//");
        String code = (at < 0 ? line : line.substring(0, at)).trim();
        String comment = at < 0 ? "" : line.substring(at + 2).trim();
        Matcher call = CALL.matcher(code);
        if (!call.matches()) {
            Check.due("README.md's line without a call of its own: " + line, code.contains("x."), false);
            return code;
        }
        Matcher answer = ANSWER.matcher(comment);
        if (!answer.matches()) {
            Check.tell("README.md does not say what this answers: " + line);
            return code;
        }
        return check(code, call.group(1), call.group(2), answer.group(1).trim());
    }

    private static String check(String code, String variable, String call, String answer) {
        String named = "(\"README.md's " + code.replace("\"", "\\\"") + "\", ";
        if (answer.equals(OUT)) {
            return "Check.outOfBounds" + named + "() -> " + call + ");";
        }
        if (answer.equals(ILLEGAL)) {
            return "Check.illegal" + named + "() -> " + call + ");";
        }
        if (variable == null) {
            return "Check.due" + named + call + ", " + answer + ");";
        }
        return code + " Check.due" + named + variable + ", " + answer + ");";
    }

    private static boolean compiles(Path source, Path folder) {
        JavaCompiler javac = ToolProvider.getSystemJavaCompiler();
        if (javac == null) {
            Check.tell("this java has no compiler");
            return false;
        }
        return javac.run(null, System.out, System.out, "--release", "17", "-Xlint:all", "-Werror",
                "-cp", System.getProperty("java.class.path"), "-d", folder.toString(), source.toString()) == 0;
    }

    private static void run(Path folder) throws Exception {
        URL[] places = {folder.toUri().toURL()};
        try (URLClassLoader loader = new URLClassLoader(places, ReadmeTest.class.getClassLoader())) {
            loader.loadClass(MADE).getMethod("compared").invoke(null);
        }
    }

    private static void remove(Path folder) throws IOException {
        try (Stream<Path> files = Files.list(folder)) {
            for (Path file : files.toList()) {
                Files.delete(file);
            }
        }
        Files.delete(folder);
    }

    private static void showsEachMethod(List<String> shown) {
        String all = String.join("\n", shown);
        for (Method method : RuleChoice.class.getDeclaredMethods()) {
            if (Modifier.isPublic(method.getModifiers())) {
                String call = "x." + method.getName() + "(";
                Check.due("README.md shows " + call + "..)", all.contains(call), true);
            }
        }
    }

    private static void namesTheTests(List<String> lines) throws IOException {
        Check.due("README.md says how to run the tests", blocks(lines, "sh").contains(SCRIPT), true);
        Check.due(SCRIPT + " can be run", Files.isExecutable(Path.of(SCRIPT)), true);
        List<String> named = new ArrayList<>();
        Matcher row = Pattern.compile("(?m)^\\| `(\\w+Test)` \\|").matcher(String.join("\n", lines));
        while (row.find()) {
            named.add(row.group(1));
        }
        List<String> there;
        try (Stream<Path> files = Files.list(TESTS)) {
            there = files.map(file -> file.getFileName().toString()).filter(name -> name.endsWith("Test.java"))
                    .map(name -> name.replace(".java", "")).sorted().toList();
        }
        Check.due("README.md names each of the tests " + there, named.stream().sorted().toList().equals(there), true);
    }
}
