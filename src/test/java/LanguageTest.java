import java.io.IOException;
import java.io.PrintWriter;
import java.io.StringWriter;
import java.lang.reflect.Array;
import java.lang.reflect.Constructor;
import java.lang.reflect.Field;
import java.lang.reflect.Method;
import java.lang.reflect.Modifier;
import java.nio.file.Files;
import java.nio.file.Path;
import java.util.ArrayList;
import java.util.Arrays;
import java.util.Collections;
import java.util.HashMap;
import java.util.IdentityHashMap;
import java.util.List;
import java.util.Map;
import java.util.Set;
import java.util.TreeSet;
import java.util.regex.Matcher;
import java.util.regex.Pattern;
import java.util.spi.ToolProvider;
import java.util.stream.Stream;

/** What of LANGUAGE.md can be seen from the source and from its compiled classes: the first argument and the second. */
final class LanguageTest {
    private static final Set<String> LIBRARY = Set.of("java/lang/Object.\"<init>\"", "java/lang/System.arraycopy",
        "java/util/Arrays.fill", "java/lang/String.length", "java/lang/String.charAt", "java/lang/Math.min",
        "java/lang/Math.max", "java/lang/Math.abs", "java/lang/Long.bitCount",
        "java/lang/IllegalStateException.\"<init>\"", "java/lang/IllegalArgumentException.\"<init>\"",
        "java/lang/IndexOutOfBoundsException.\"<init>\"", "java/util/NoSuchElementException.\"<init>\"");
    private static final String[] FORBIDDEN = {"\\bcatch\\b", "\\bfinally\\b", "\\bsynchronized\\b", "\\bassert\\b",
        "->", "::", "\\bvar\\b", "\\bstatic \\{", "\" \\+", "\\+ \"", "\\.equals\\(", "\\bprotected\\b",
        "\\bimport (?!java.util.(Arrays|NoSuchElementException);)", "Exact\\b", "\\bStrictMath\\b", "\\bInteger\\."};

    private final Path source;
    private final Path classes;
    private final Map<String, List<String>> calls = new HashMap<>();

    private LanguageTest(Path source, Path classes) {
        this.source = source;
        this.classes = classes;
    }

    public static void main(String[] args) throws IOException {
        LanguageTest test = new LanguageTest(Path.of(args[0]), Path.of(args[1]));
        test.face();
        test.sizes();
        test.room();
        test.words();
        test.throwsAreWritten();
        test.methodsAreShort();
        test.code();
        test.depth();
        Check.finish("LanguageTest");
    }

    private static List<Class<?>> allClasses() {
        List<Class<?>> all = new ArrayList<>(List.of(GoldenHeaps.class.getDeclaredClasses()));
        all.add(GoldenHeaps.class);
        return all;
    }

    /** The face of the document, constants and constructor and methods, and nothing else. */
    private void face() throws IOException {
        String document = Files.readString(source.toAbsolutePath().getParent().resolve("../../../../shared/DOC.md"));
        String told = document.substring(document.indexOf("public final class"), document.indexOf("## Terms"));
        Set<String> due = new TreeSet<>();
        Matcher m = Pattern.compile("public static final int (\\w+) = (-?\\d+);|public ([^;=]*\\))").matcher(told);
        while (m.find()) {
            due.add(m.group(1) != null ? m.group(1) + " " + m.group(2) : m.group(3).replaceAll("(\\w+) \\w+(?=[,)])", "$1"));
        }
        Set<String> got = new TreeSet<>();
        try {
            for (Field field : GoldenHeaps.class.getDeclaredFields()) {
                if (!Modifier.isPrivate(field.getModifiers())) {
                    got.add(field.getName() + " " + field.get(null));
                }
            }
        } catch (IllegalAccessException e) {
            got.add(e.getMessage());
        }
        for (Method method : GoldenHeaps.class.getDeclaredMethods()) {
            if (!Modifier.isPrivate(method.getModifiers())) {
                got.add(method.getReturnType() + " " + signature(method.getName(), method.getParameterTypes()));
            }
        }
        for (Constructor<?> constructor : GoldenHeaps.class.getDeclaredConstructors()) {
            got.add(signature("GoldenHeaps", constructor.getParameterTypes()));
        }
        Check.due("the face", got, due);
        Check.due("modifiers", Modifier.toString(GoldenHeaps.class.getModifiers()), "public final");
    }

    private static String signature(String name, Class<?>[] parameters) {
        return name + Stream.of(parameters).map(Class::getName).toList().toString().replace('[', '(').replace(']', ')');
    }

    private void sizes() {
        Check.due("at most twelve classes", allClasses().size() <= 12, true);
        Set<String> open = new TreeSet<>();
        for (Method method : GoldenHeaps.class.getDeclaredMethods()) {
            if (!Modifier.isPrivate(method.getModifiers())) {
                open.add(method.getName());
            }
        }
        for (Class<?> one : allClasses()) {
            int fields = 0;
            for (Field field : one.getDeclaredFields()) {
                Check.due(field + " is static and final, or neither", !Modifier.isStatic(field.getModifiers())
                    || Modifier.isFinal(field.getModifiers()), true);
                fields += Modifier.isStatic(field.getModifiers()) ? 0 : 1;
            }
            Check.due("fields of " + one, fields <= 20, true);
            for (Method method : one.getDeclaredMethods()) {
                Check.due("parameters of " + method, method.getParameterCount() <= 7, true);
                boolean isOpen = one == GoldenHeaps.class && open.contains(method.getName());
                Check.due("name of " + method, isOpen || !open.contains(method.getName()), true);
                Check.due("kind of " + method, method.isSynthetic() || method.isBridge(), false);
            }
            Check.due("nested and static " + one, one == GoldenHeaps.class || Modifier.isStatic(one.getModifiers())
                && Modifier.isPrivate(one.getModifiers()), true);
        }
    }

    /** All that an object holds is made with it; one with everything used holds no more than a new one. */
    private void room() {
        GoldenHeaps heaps = new GoldenHeaps();
        long[] fresh = room(heaps);
        Check.append(heaps, "rule a slack 5;rule b slack 4;rule c slack 3;rule d slack 2;board a 9 9;board d 9 9;");
        heaps.loadHeaps();
        heaps.follow(600);
        heaps.keep(0);
        heaps.undo();
        heaps.bringBack(0);
        heaps.changedBy(0, 1, 1);
        heaps.printParts();
        long[] used = room(heaps);
        System.out.println("a new object holds " + fresh[0] + " objects and arrays, " + fresh[1] + " fields and elements");
        Check.due("no more objects and arrays", used[0] <= fresh[0], true);
        Check.due("no more fields and elements", used[1] <= fresh[1], true);
        Check.due("at most 300 objects and arrays", fresh[0] <= 300, true);
        Check.due("at most 60000 fields and elements", fresh[1] <= 60000, true);
    }

    /** How many objects and arrays are reached from an object, and how many fields and elements they have. */
    private static long[] room(Object from) {
        Set<Object> seen = Collections.newSetFromMap(new IdentityHashMap<>());
        List<Object> open = new ArrayList<>(List.of(from));
        long places = 0;
        while (!open.isEmpty()) {
            Object one = open.remove(open.size() - 1);
            if (one != null && seen.add(one)) {
                places += one.getClass().isArray() ? Array.getLength(one) : fieldsOf(one, open);
                if (one instanceof Object[]) {
                    open.addAll(Arrays.asList((Object[]) one));
                }
            }
        }
        return new long[] {seen.size(), places};
    }

    private static int fieldsOf(Object one, List<Object> open) {
        int fields = 0;
        try {
            for (Field field : one.getClass().getDeclaredFields()) {
                if (!Modifier.isStatic(field.getModifiers())) {
                    fields++;
                    field.setAccessible(true);
                    open.add(field.getType().isPrimitive() ? null : field.get(one));
                }
            }
        } catch (IllegalAccessException e) {
            Check.due("fields of " + one, e.getMessage(), "read");
        }
        return fields;
    }

    /** Rule 6: each throw makes one of the exceptions that the document names, with a written text; none is caught. */
    private void throwsAreWritten() throws IOException {
        int throwing = 0;
        for (String line : Files.readAllLines(source)) {
            if (line.matches(".*\\bthrow\\b.*")) {
                throwing++;
                Check.due("throw in " + line, line.matches(".* throw new (IllegalState|IllegalArgument|IndexOutOfBounds"
                    + "|NoSuchElement)Exception\\(\"[^\"]+\"\\);"), true);
            }
        }
        Check.due("throws were read", throwing >= 5, true);
    }

    private void words() throws IOException {
        int number = 0;
        for (String line : Files.readAllLines(source)) {
            number++;
            String bare = line.replaceAll("//.*|^\\s*/?\\*.*", "");
            Check.due("signs of line " + number, line.chars().allMatch(sign -> sign < 127), true);
            Check.due("length of line " + number, line.length() <= 120, true);
            for (String word : FORBIDDEN) {
                Check.due(word + " in line " + number, Pattern.compile(word).matcher(bare).find(), false);
            }
        }
    }

    private void methodsAreShort() throws IOException {
        List<String> lines = Files.readAllLines(source);
        for (int i = 0; i < lines.size(); i++) {
            Matcher head = Pattern.compile("^( {4}| {8})(?! )[^=;]*\\).*\\{$").matcher(lines.get(i));
            if (head.find()) {
                int length = 1;
                while (!lines.get(i + length).equals(head.group(1) + "}")) {
                    length++;
                }
                Check.due("length of " + lines.get(i), length <= 60, true);
            }
        }
    }

    /** Only the library that is told, and objects made in constructors alone, but for exceptions. */
    private void code() {
        String at = "";
        String own = "";
        for (String line : listing().split("\n")) {
            Matcher head = Pattern.compile("^  (?:\\S.* )?([^ (]+)\\(.*\\).*;$").matcher(line);
            Matcher call = Pattern.compile("invoke\\w+ +#\\d+(?:, +\\d+)? +// \\w+ ([^:]+):").matcher(line);
            Matcher made = Pattern.compile(": (new|newarray|anewarray) .*// class (\\S+)|: (newarray) ").matcher(line);
            if (line.matches("^\\S.*class .*\\{$")) {
                own = line.replaceAll(".*class (\\S+) .*", "$1");
            } else if (line.matches("^  static \\{\\};$")) {
                at = own + ".static";
            } else if (head.find()) {
                at = own + "." + (head.group(1).equals(own) ? "\"<init>\"" : head.group(1));
                calls.putIfAbsent(at, new ArrayList<>());
            } else if (call.find()) {
                String to = call.group(1).contains(".") ? call.group(1) : own + "." + call.group(1);
                boolean isOwn = to.startsWith("GoldenHeaps");
                Check.due("library " + to, isOwn || LIBRARY.contains(to), true);
                if (isOwn) {
                    calls.get(at).add(to);
                }
            } else if (made.find()) {
                boolean isException = made.group(2) != null && made.group(2).endsWith("Exception");
                boolean isConstructor = at.endsWith("\"<init>\"") || at.endsWith(".static");
                Check.due("what " + at + " makes", isException != isConstructor, true);
            }
            for (String word : new String[] {"checkcast", "instanceof", "invokedynamic", "monitorenter", "multianewarray"}) {
                Check.due(word + " in " + at, line.contains(": " + word), false);
            }
        }
        Check.due("methods were read", calls.size() > 100, true);
    }

    private String listing() {
        StringWriter listing = new StringWriter();
        List<String> arguments = new ArrayList<>(List.of("-p", "-c"));
        for (Class<?> one : allClasses()) {
            arguments.add(classes.resolve(one.getName() + ".class").toString());
        }
        ToolProvider javap = ToolProvider.findFirst("javap").orElseThrow();
        javap.run(new PrintWriter(listing, true), new PrintWriter(System.out, true), arguments.toArray(new String[0]));
        return listing.toString();
    }

    /** No recursion, and calls at most eight deep, the call of the face among them. */
    private void depth() {
        int deepest = 0;
        for (String method : calls.keySet()) {
            int depth = depthOf(method, 1);
            Check.due("depth of " + method, depth <= 8, true);
            deepest = Math.max(deepest, depth);
        }
        System.out.println("calls go " + deepest + " deep");
    }

    private int depthOf(String method, int ahead) {
        int deepest = ahead;
        if (ahead <= 20) {
            for (String called : calls.getOrDefault(method, List.of())) {
                deepest = Math.max(deepest, depthOf(called, ahead + 1));
            }
        }
        return deepest;
    }
}
