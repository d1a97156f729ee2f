import java.io.File;
import java.io.IOException;
import java.lang.reflect.Method;
import java.nio.file.Files;
import java.nio.file.Path;
import java.util.List;
import java.util.regex.Matcher;
import java.util.regex.Pattern;
import java.util.stream.Stream;
import javax.tools.ToolProvider;

/** Runs what README.md shows in Java, and looks whether it shows every call and names every test, as .ci/run does. */
public final class ReadmeTest {
    private static final Pattern ANSWER = Pattern.compile("(x\\.\\w+\\(.*\\)); +// (-?\\d+|true|false)(:.*)?");
    private static final int LEAST_ANSWERS = 50;
    private static int answers = 0;
    private static int wrong = 0;

    private ReadmeTest() { }

    public static void main(String[] args) throws IOException, ReflectiveOperationException {
        String page = Files.readString(Path.of(args.length > 0 ? args[0] : "README.md"));
        run(program(page));
        must(answers >= LEAST_ANSWERS, "README.md shows only " + answers + " answers");
        for (Method m : GoatMatches.class.getMethods()) {
            must(m.getDeclaringClass() != GoatMatches.class || page.contains(m.getName() + "("),
                    "README.md does not show " + m.getName());
        }
        tests(page, Files.readString(Path.of(".ci/run")));
        System.out.println("readme: " + answers + " answers, " + wrong + " wrong");
        if (wrong > 0) {
            System.exit(1);
        }
    }

    private static void must(boolean is, String what) {
        if (!is) {
            wrong++;
            System.out.println("ReadmeTest: " + what);
        }
    }

    /** Called by the program that is made of README.md. */
    public static void due(String call, Object got, String want) {
        answers++;
        must(want.equals(String.valueOf(got)), call + " answered " + got + ", README.md says " + want);
    }

    /** A block that begins with a method is put beside main, all others are put into it. */
    private static String program(String page) {
        StringBuilder members = new StringBuilder();
        StringBuilder body = new StringBuilder();
        for (String block : blocks(page)) {
            (block.startsWith("static ") ? members : body).append(block);
        }
        return "public final class ReadmeRun {\n" + members + "public static void run() {\n" + body + "}\n}\n";
    }

    private static List<String> blocks(String page) {
        return Pattern.compile("```java\n(.*?)```", Pattern.DOTALL).matcher(page).results()
                .map(block -> asked(block.group(1))).toList();
    }

    private static String asked(String block) {
        StringBuilder lines = new StringBuilder();
        for (String line : block.split("\n")) {
            Matcher m = ANSWER.matcher(line);
            lines.append(m.matches()
                    ? "ReadmeTest.due(\"" + m.group(1) + "\", " + m.group(1) + ", \"" + m.group(2) + "\");" : line);
            must(m.matches() || !line.startsWith("x."), "no answer behind " + line);
            lines.append('\n');
        }
        return lines.toString();
    }

    private static void run(String program) throws IOException, ReflectiveOperationException {
        Path dir = Files.createTempDirectory("readme");
        Path source = dir.resolve("ReadmeRun.java");
        Path made = dir.resolve("ReadmeRun.class");
        try {
            Files.writeString(source, program);
            int code = ToolProvider.getSystemJavaCompiler().run(null, null, null, "-encoding", "UTF-8", "-cp",
                    System.getProperty("java.class.path"), "-d", dir.toString(), source.toString());
            must(code == 0, "README.md does not compile");
            if (code == 0) {
                new Loader(Files.readAllBytes(made)).run();
            }
        } finally {
            Files.deleteIfExists(source);
            Files.deleteIfExists(made);
            Files.deleteIfExists(dir);
        }
    }

    private static final class Loader extends ClassLoader {
        private final byte[] bytes;

        Loader(byte[] bytes) {
            super(ReadmeTest.class.getClassLoader());
            this.bytes = bytes;
        }

        void run() throws ReflectiveOperationException {
            defineClass("ReadmeRun", bytes, 0, bytes.length).getMethod("run").invoke(null);
        }
    }

    /** Every file with a main is a test but Mutants. */
    private static void tests(String page, String script) throws IOException {
        must(page.contains("\nbash .ci/run\n"), "README.md does not say how the tests are run");
        must(new File(".ci/run").canExecute(), ".ci/run is not executable");
        try (Stream<Path> files = Files.list(Path.of("src/test/java"))) {
            for (Path file : files.sorted().toList()) {
                String name = file.getFileName().toString().replace(".java", "");
                if (Files.readString(file).contains("void main(") && !name.equals("Mutants")) {
                    must(page.contains("- `" + name), "README.md leaves out " + name);
                    must(Pattern.compile("\\n *for name in [^\\n]*\\b" + name + "\\b").matcher(script).find(),
                            ".ci/run leaves out " + name);
                }
            }
        }
    }
}
