import java.net.URL;
import java.net.URLClassLoader;
import java.nio.file.Files;
import java.nio.file.Path;
import java.util.ArrayList;
import java.util.List;
import java.util.Set;
import java.util.TreeSet;
import java.util.regex.Matcher;
import java.util.regex.Pattern;
import java.util.stream.Stream;
import javax.tools.ToolProvider;

/**
 * What README.md says is true of the project: its program compiles and answers what its lines say, the
 * tests and classes that it names are those that there are.
 */
public final class ReadmeTest {
    private static final Pattern ANSWERED = Pattern.compile("(?:(int|long) (\\w+) = )?(.+);\\s+// answers (-?\\d+|[A-Z]+)\\b.*");
    private static final Set<String> REFUSALS = Set.of("BAD", "KIND", "STATE", "FULL", "MUCH", "NO");

    private static int wrong = 0;
    private static int asked = 0;

    /** The README's program, made anew, asks here. */
    public static void due(String line, long got, long want) {
        asked++;
        if (got != want) {
            fault(line + "\n  answered " + got);
        }
    }

    private static void fault(String what) {
        wrong++;
        System.out.println("README.md: " + what);
    }

    /** Lines of the blocks that are of a language, in order. */
    private static List<String> blocks(List<String> page, String language) {
        List<String> found = new ArrayList<>();
        boolean inside = false;
        for (String line : page) {
            if (line.startsWith("```")) {
                inside = line.equals("```" + language);
            } else if (inside && !line.isBlank()) {
                found.add(line);
            }
        }
        return found;
    }

    private static String asChecked(String line) {
        Matcher m = ANSWERED.matcher(line);
        if (!m.matches()) {
            return line;
        }
        String want = REFUSALS.contains(m.group(4)) ? "RecordCounter." + m.group(4) : m.group(4) + "L";
        String shown = '"' + line.replace("\\", "\\\\").replace("\"", "\\\"") + '"';
        String made = m.group(2) == null ? "" : m.group(1) + " " + m.group(2) + " = " + m.group(3) + ";\n";
        String asked = m.group(2) == null ? m.group(3) : m.group(2);
        return made + "ReadmeTest.due(" + shown + ", " + asked + ", " + want + ");";
    }

    private static void playProgram(List<String> page) throws Exception {
        StringBuilder program = new StringBuilder("public final class Shown {\npublic static void main(String[] args) {\n");
        for (String line : blocks(page, "java")) {
            program.append(asChecked(line)).append('\n');
        }
        program.append("}\n}\n");
        Path at = Files.createTempDirectory("readme");
        Path file = at.resolve("Shown.java");
        Files.writeString(file, program);
        int failed = ToolProvider.getSystemJavaCompiler().run(null, System.out, System.out, "-cp",
            System.getProperty("java.class.path"), "-d", at.toString(), file.toString());
        if (failed != 0) {
            fault("its program does not compile");
        } else {
            try (URLClassLoader loader = new URLClassLoader(new URL[] {at.toUri().toURL()})) {
                loader.loadClass("Shown").getMethod("main", String[].class).invoke(null, (Object) new String[0]);
            }
        }
        Files.deleteIfExists(at.resolve("Shown.class"));
        Files.delete(file);
        Files.delete(at);
    }

    private static Set<String> namesIn(String directory) throws Exception {
        Set<String> names = new TreeSet<>();
        try (Stream<Path> files = Files.list(Path.of(directory))) {
            files.forEach(f -> names.add(f.getFileName().toString().replace(".java", "")));
        }
        return names;
    }

    private static Set<String> namedIn(String text, String pattern) {
        Set<String> names = new TreeSet<>();
        Matcher m = Pattern.compile(pattern).matcher(text);
        while (m.find()) {
            names.add(m.group(1));
        }
        return names;
    }

    private static void same(String what, Set<String> said, Set<String> are) {
        asked++;
        if (!said.equals(are)) {
            fault(what + " are " + are + ", it names " + said);
        }
    }

    private static String section(String text, String title) {
        int start = text.indexOf("## " + title);
        int end = text.indexOf("\n## ", start + 1);
        if (start < 0) {
            fault("has no part " + title);
            return "";
        }
        return end < 0 ? text.substring(start) : text.substring(start, end);
    }

    private static void names(String text) throws Exception {
        same("tests", namedIn(text, "\\b(\\w+Test)\\b"), namesIn("src/test/java"));
        String tests = section(text, "How to run the tests");
        for (String help : namesIn("src/test/help")) {
            if (!tests.contains("`" + help + "`")) {
                fault("does not name " + help);
            }
        }
        Set<String> inside = new TreeSet<>();
        for (Class<?> c : RecordCounter.class.getDeclaredClasses()) {
            inside.add(c.getSimpleName());
        }
        same("classes", namedIn(section(text, "How it is built"), "`([A-Z]\\w*[a-z])`"), inside);
        Set<String> files = namedIn(text, "`((?:src/|\\.\\./|\\.ci/)[\\w./]+)`");
        files.addAll(namedIn(text, "(?m)^(\\.ci/\\w+)$"));
        for (String file : files) {
            asked++;
            if (!Files.exists(Path.of(file))) {
                fault("names " + file + ", which is not there");
            }
        }
        asked++;
        if (!files.contains(".ci/run") || !Files.isExecutable(Path.of(".ci/run"))) {
            fault("the tests are run by .ci/run");
        }
    }

    /** The tests of which it says that they extend Checks. */
    private static void heirs(String text) throws Exception {
        int heirs = 0;
        for (String name : namesIn("src/test/java")) {
            String code = Files.readString(Path.of("src/test/java", name + ".java"));
            heirs += Pattern.compile("class \\w+ extends Checks").matcher(code).find() ? 1 : 0;
        }
        asked++;
        if (heirs != 7 || !text.contains("The first seven extend `Checks`")) {
            fault(heirs + " tests extend Checks");
        }
    }

    public static void main(String[] args) throws Exception {
        Path page = Path.of("README.md");
        playProgram(Files.readAllLines(page));
        if (asked < 50) {
            fault("its program says only " + asked + " answers");
        }
        names(Files.readString(page));
        heirs(Files.readString(page));
        System.out.println(wrong == 0 ? asked + " answers and names: all are so" : wrong + " are not so");
        if (wrong != 0) {
            System.exit(1);
        }
    }
}
