import java.io.IOException;
import java.lang.reflect.Method;
import java.lang.reflect.Modifier;
import java.net.URL;
import java.net.URLClassLoader;
import java.nio.file.FileSystems;
import java.nio.file.Files;
import java.nio.file.Path;
import java.nio.file.PathMatcher;
import java.util.ArrayList;
import java.util.List;
import java.util.Set;
import java.util.TreeSet;
import java.util.regex.Matcher;
import java.util.regex.Pattern;
import java.util.stream.Stream;
import javax.tools.JavaCompiler;
import javax.tools.ToolProvider;

/** What README.md says, tried: its code is compiled and run, and what it names is looked up. */
public final class ReadmeTests {
    private static final Pattern CALL = Pattern.compile("\\s*(snow\\..*\\));\\s*// (-?[0-9]+|[A-Z]+)\\b.*");
    private static final Pattern METHOD = Pattern.compile("`?([a-z]+)\\(([a-z, ]*)\\)`");
    private static final Pattern CONSTANT = Pattern.compile("`([A-Z]+)` \\((-[0-9]+)\\)");
    private static final Pattern NAMED_FILE = Pattern.compile("`(src/[^`]*)`");

    private static int passed = 0;
    private static int failed = 0;
    private static int callsMade = 0;

    public static void main(String[] args) throws Exception {
        List<String> lines = Files.readAllLines(Path.of("README.md"));
        String page = String.join("\n", lines);
        code(lines);
        methods(page);
        constants(page);
        files(page);
        says("the tests are run by .ci/run", page.contains("\n    .ci/run\n") && Files.exists(Path.of(".ci/run")));
        System.out.println(passed + " passed, " + failed + " failed");
        if (failed != 0) {
            System.exit(1);
        }
    }

    private static void says(String what, boolean so) {
        if (so) {
            passed++;
        } else {
            failed++;
            System.out.println("README.md says what is not so: " + what);
        }
    }

    /** Called by the page's code when it runs. */
    public static void due(String call, long got, long want) {
        callsMade++;
        says(call + " answers " + want + " (it answered " + got + ")", got == want);
    }

    private static void code(List<String> lines) throws Exception {
        StringBuilder source = new StringBuilder("public final class ReadmeCode {\npublic static void run() {\n");
        boolean inside = false;
        int answers = 0;
        for (String line : lines) {
            if (line.startsWith("```")) {
                inside = line.equals("```java");
            } else if (inside) {
                Matcher m = CALL.matcher(line);
                boolean judged = m.matches();
                answers += judged ? 1 : 0;
                says("what is answered: " + line, judged || !line.contains("snow.") || !line.contains("//"));
                source.append(judged ? judged(m.group(1), m.group(2)) : line).append('\n');
            }
        }
        says("there are calls with answers", answers > 0);
        run(source.append("}\n}\n").toString());
        says(callsMade + " of " + answers + " calls are made", callsMade == answers);
    }

    private static String judged(String call, String answer) {
        String want = Character.isLetter(answer.charAt(0)) ? "PromisedSnow." + answer : answer;
        return "ReadmeTests.due(\"" + call.replace("\"", "\\\"") + "\", " + call + ", " + want + ");";
    }

    private static void run(String source) throws Exception {
        Path folder = Files.createTempDirectory("readme");
        try {
            Path file = folder.resolve("ReadmeCode.java");
            Files.writeString(file, source);
            JavaCompiler compiler = ToolProvider.getSystemJavaCompiler();
            int rc = compiler.run(null, null, null, "-proc:none", "-encoding", "UTF-8", "-cp",
                System.getProperty("java.class.path"), "-d", folder.toString(), file.toString());
            says("its code compiles", rc == 0);
            if (rc == 0) {
                try (URLClassLoader loader = new URLClassLoader(new URL[] {folder.toUri().toURL()})) {
                    loader.loadClass("ReadmeCode").getMethod("run").invoke(null);
                }
            }
        } finally {
            clear(folder);
        }
    }

    private static void clear(Path folder) throws IOException {
        List<Path> files = new ArrayList<>();
        try (Stream<Path> all = Files.list(folder)) {
            all.forEach(files::add);
        }
        for (Path file : files) {
            Files.delete(file);
        }
        Files.delete(folder);
    }

    /** The table of all methods tells each of them, with as many arguments as it takes. */
    private static void methods(String page) {
        Set<String> told = new TreeSet<>();
        int table = page.indexOf("### All methods");
        says("there is a table of all methods", table >= 0);
        Matcher m = METHOD.matcher(page.substring(Math.max(0, table), page.indexOf("## How to run its tests")));
        while (m.find()) {
            told.add(m.group(1) + "/" + (m.group(2).isEmpty() ? 0 : m.group(2).split(", ").length));
        }
        Set<String> there = new TreeSet<>();
        for (Method method : PromisedSnow.class.getDeclaredMethods()) {
            if (Modifier.isPublic(method.getModifiers())) {
                there.add(method.getName() + "/" + method.getParameterCount());
            }
        }
        says("the methods are " + told + " (they are " + there + ")", told.equals(there));
    }

    private static void constants(String page) throws ReflectiveOperationException {
        Matcher m = CONSTANT.matcher(page);
        int told = 0;
        while (m.find()) {
            told++;
            int value = PromisedSnow.class.getField(m.group(1)).getInt(null);
            says(m.group(), value == Integer.parseInt(m.group(2)));
        }
        says("there are " + told + " constants", told == PromisedSnow.class.getFields().length);
    }

    private static void files(String page) throws IOException {
        Matcher m = NAMED_FILE.matcher(page);
        while (m.find()) {
            says("there is " + m.group(1), isThere(Path.of(m.group(1))));
        }
        try (Stream<Path> all = Files.list(Path.of("src/test/java"))) {
            for (Path test : (Iterable<Path>) all::iterator) {
                String name = test.getFileName().toString();
                boolean told = name.endsWith("BoundsTests.java") ? page.contains("`" + name.split("Bounds")[0] + "..`")
                    : !name.endsWith("Tests.java") || page.contains(name);
                says("which test " + name + " is", told);
            }
        }
    }

    private static boolean isThere(Path path) throws IOException {
        if (!path.toString().contains("*")) {
            return Files.exists(path);
        }
        PathMatcher matcher = FileSystems.getDefault().getPathMatcher("glob:" + path.getFileName());
        try (Stream<Path> all = Files.list(path.getParent())) {
            return all.anyMatch(file -> matcher.matches(file.getFileName()));
        }
    }
}
