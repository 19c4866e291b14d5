import java.io.File;
import java.lang.reflect.Method;
import java.lang.reflect.Modifier;
import java.net.URL;
import java.net.URLClassLoader;
import java.nio.file.Files;
import java.nio.file.Path;
import java.util.ArrayList;
import java.util.List;
import java.util.Set;
import java.util.TreeSet;
import java.util.regex.Matcher;
import java.util.regex.Pattern;
import javax.tools.ToolProvider;

/** Runs the Java of README.md: each call there answers what stands behind it, and no call of the face is missing. */
final class ReadmeTest {
    private static final String START = "GoldenHeaps heaps = ";
    private static final String CLASS = "ReadmeCalls";
    /** A call and its answer, which a word about it in parentheses may follow. */
    private static final Pattern ANSWERED = Pattern.compile("(\\S.*\\));\\s*// (.+?)(?: \\(.*\\))?");
    private static final Pattern CALLED = Pattern.compile("heaps\\.(\\w+)\\(");

    private final StringBuilder methods = new StringBuilder();
    private final StringBuilder main = new StringBuilder();
    private final Set<String> called = new TreeSet<>();
    private int runs = 0;

    /** The second argument is a place beside which there is room for a class. */
    public static void main(String[] args) throws Exception {
        ReadmeTest test = new ReadmeTest();
        for (List<String> block : blocks(Files.readAllLines(Path.of("README.md")))) {
            test.take(block);
        }
        test.runCalls(Path.of(args[1]).resolveSibling("readme"));
        test.allAreCalled();
        Check.finish("ReadmeTest");
    }

    private static List<List<String>> blocks(List<String> lines) {
        List<List<String>> blocks = new ArrayList<>();
        List<String> block = new ArrayList<>();
        for (String line : lines) {
            if (line.equals("```java")) {
                block = new ArrayList<>();
                blocks.add(block);
            } else if (line.equals("```")) {
                block = new ArrayList<>();
            } else {
                block.add(line);
            }
        }
        return blocks;
    }

    /** A block that begins with an object is a run of calls on it; another one has methods that the runs use. */
    private void take(List<String> block) {
        boolean isRun = block.get(0).startsWith(START);
        if (isRun) {
            runs++;
            methods.append("static void run").append(runs).append("() {\n");
            main.append("run").append(runs).append("();\n");
        }
        for (String line : block) {
            Matcher answered = ANSWERED.matcher(line);
            boolean isCall = isRun && answered.matches();
            methods.append(isCall ? checked(answered.group(1), answered.group(2)) : line).append('\n');
        }
        methods.append(isRun ? "}\n" : "");
    }

    private String checked(String call, String answer) {
        Matcher names = CALLED.matcher(call);
        while (names.find()) {
            called.add(names.group(1));
        }
        return "Check.due(" + quoted("README.md: " + call) + ", String.valueOf(Check.answerOf(() -> " + call + ")), "
            + quoted(answer.replace("throws ", "throws.")) + ");";
    }

    private static String quoted(String text) {
        return '"' + text.replace("\\", "\\\\").replace("\"", "\\\"") + '"';
    }

    /** The calls have classes of their own, and so answers of their own to count: they finish on their own, too. */
    private void runCalls(Path place) throws Exception {
        Files.createDirectories(place);
        Path source = place.resolve(CLASS + ".java");
        String path = System.getProperty("java.class.path");
        Files.writeString(source, "public final class " + CLASS + " {\n" + methods
            + "public static void main(String[] args) {\n" + main + "Check.finish(\"calls of README.md\");\n}\n}\n");
        int failed = ToolProvider.getSystemJavaCompiler().run(null, null, null, "-d", place.toString(), "-cp", path,
            source.toString());
        Check.due("README.md compiled", failed, 0);
        if (failed == 0) {
            List<URL> urls = new ArrayList<>(List.of(place.toUri().toURL()));
            for (String part : path.split(File.pathSeparator)) {
                urls.add(Path.of(part).toUri().toURL());
            }
            try (URLClassLoader loader = new URLClassLoader(urls.toArray(new URL[0]), null)) {
                loader.loadClass(CLASS).getMethod("main", String[].class).invoke(null, (Object) new String[0]);
            }
        }
    }

    private void allAreCalled() {
        for (Method method : GoldenHeaps.class.getDeclaredMethods()) {
            if (Modifier.isPublic(method.getModifiers())) {
                Check.due("README.md calls " + method.getName(), called.contains(method.getName()), true);
            }
        }
    }
}
