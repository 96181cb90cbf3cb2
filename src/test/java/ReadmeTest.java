import java.lang.reflect.Method;
import java.lang.reflect.Modifier;
import java.net.URL;
import java.net.URLClassLoader;
import java.nio.file.Files;
import java.nio.file.Path;
import java.util.HashSet;
import java.util.List;
import java.util.Set;
import java.util.regex.Matcher;
import java.util.regex.Pattern;
import java.util.stream.Stream;
import javax.tools.JavaCompiler;
import javax.tools.ToolProvider;

/**
 * README.md shows calls and what they answer: its examples are compiled and run as one run of calls, and each answer
 * has to be the one that is shown. Its argument: the project's folder.
 */
public final class ReadmeTest {
    private static final Due due = new Due();
    private static final Pattern CALL = Pattern.compile("(?:int (\\w+) = )?(x\\.(\\w+)\\(.*\\));\\s*// (-?\\d+|[A-Z]+)(?:: .+)?");
    private static final String[] NAMES = {"UNKNOWN", "OUTSIDE", "STATE", "FULL", "NONE", "LOST"};
    private static final String[] FAULTS = {"NULL", "CAST", "INDEX", "SIZE"};

    public static void main(String[] args) throws Exception {
        List<String> lines = Files.readAllLines(Path.of(args.length > 0 ? args[0] : ".").resolve("README.md"));
        examples(lines);
        tables(String.join("\n", lines));
        testsAreListed(lines, Path.of(args.length > 0 ? args[0] : ".").resolve("src/test/java"));
        due.end("ReadmeTest");
    }

    private static void examples(List<String> lines) throws Exception {
        StringBuilder code = new StringBuilder("public final class ReadmeRun {\n"
            + "  public static java.util.List<long[]> answers() {\n    java.util.List<long[]> all = new java.util.ArrayList<>();\n");
        Set<String> shown = new HashSet<>();
        long[] want = new long[lines.size()];
        boolean inside = false;
        for (int n = 0; n < lines.size(); n++) {
            String line = lines.get(n);
            if (line.startsWith("```")) {
                inside = line.equals("```java");
            } else if (inside) {
                Matcher call = CALL.matcher(line.trim());
                boolean matches = call.matches();
                due.holds("line " + (n + 1) + ", if it calls, tells the answer", matches || !line.trim().startsWith("x."));
                if (matches) {
                    shown.add(call.group(3));
                    want[n] = number(call.group(4));
                    // What a call answers may be kept under a name for the calls behind it.
                    String kept = call.group(1) == null ? "" : "int " + call.group(1) + " = ";
                    String got = call.group(1) == null ? call.group(2) : call.group(1);
                    code.append(kept.isEmpty() ? "" : kept + call.group(2) + "; ");
                    code.append("all.add(new long[] {").append(n).append(", ").append(got).append("});\n");
                } else {
                    code.append(line).append("\n");
                }
            }
        }
        code.append("    return all;\n  }\n}\n");
        for (long[] answer : answersOf(code.toString())) {
            int n = (int) answer[0];
            due.is("README.md, line " + (n + 1) + ": " + lines.get(n).trim(), answer[1], want[n]);
        }
        for (Method m : TouchUp.class.getDeclaredMethods()) {
            boolean open = Modifier.isPublic(m.getModifiers());
            due.holds("README.md shows " + m.getName(), !open || shown.contains(m.getName()));
        }
    }

    private static long number(String shown) throws ReflectiveOperationException {
        return Character.isLetter(shown.charAt(0)) ? TouchUp.class.getField(shown).getLong(null) : Long.parseLong(shown);
    }

    @SuppressWarnings("unchecked")
    private static List<long[]> answersOf(String code) throws Exception {
        JavaCompiler compiler = ToolProvider.getSystemJavaCompiler();
        if (compiler == null) {
            throw new IllegalStateException("java has no compiler: it is not a JDK's");
        }
        Path folder = Files.createTempDirectory("readme");
        try {
            Path file = folder.resolve("ReadmeRun.java");
            Files.writeString(file, code);
            String path = System.getProperty("java.class.path");
            int failed = compiler.run(null, null, null, "-cp", path, "-d", folder.toString(), file.toString());
            due.is("compiling the examples of README.md", failed, 0);
            try (URLClassLoader loader = new URLClassLoader(new URL[] {folder.toUri().toURL()})) {
                return failed != 0 ? List.of() : (List<long[]>) loader.loadClass("ReadmeRun").getMethod("answers").invoke(null);
            }
        } finally {
            remove(folder);
        }
    }

    private static void remove(Path folder) throws Exception {
        try (Stream<Path> files = Files.list(folder)) {
            for (Path file : (Iterable<Path>) files::iterator) {
                Files.delete(file);
            }
        }
        Files.delete(folder);
    }

    private static void tables(String page) throws ReflectiveOperationException {
        for (String name : NAMES) {
            due.holds("the row of " + name, page.contains("\n| `" + name + "` | " + number(name) + " | "));
        }
        for (int f = 1; f <= FAULTS.length; f++) {
            due.holds("the row of " + FAULTS[f - 1], page.contains("\n| " + FAULTS[f - 1] + " | " + f + " | " + (-10 - f) + " | "));
        }
    }

    private static void testsAreListed(List<String> lines, Path tests) throws Exception {
        String table = String.join("\n", lines.subList(lines.indexOf("## Tests"), lines.size()));
        try (Stream<Path> files = Files.list(tests)) {
            for (Path file : (Iterable<Path>) files::iterator) {
                String name = file.getFileName().toString().replace(".java", "");
                due.holds(name + " is listed", !name.endsWith("Test") || Pattern.compile("\\b" + name + "\\b").matcher(table).find());
            }
        }
    }
}
