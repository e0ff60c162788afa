import java.io.IOException;
import java.lang.reflect.Method;
import java.lang.reflect.Modifier;
import java.net.URL;
import java.net.URLClassLoader;
import java.nio.file.Files;
import java.nio.file.Path;
import java.util.ArrayList;
import java.util.List;
import java.util.Set;
import java.util.TreeSet;
import java.util.regex.Matcher;
import java.util.regex.Pattern;
import java.util.stream.Stream;
import javax.tools.JavaCompiler;
import javax.tools.ToolProvider;

/**
 * The calls that README.md shows answer as it says they do: its Java is compiled as it stands there,
 * and what each call answers is compared with what stands behind the call.
 */
public final class ReadmeTest {
    private static final Path README = Path.of("README.md");
    private static final Path TESTS = Path.of("src/test/java");
    private static final String MADE = "LinRows wire = new LinRows();";
    // A variable that takes the answer, if there is one; the call; its method; what it answers.
    private static final Pattern CALL = Pattern.compile(
        "(?:int (\\w+) = )?(wire\\.(\\w+)\\(.*\\)); +// (-?\\d+|throws \\w+)(?:: .*)?");
    private static final Pattern PREPARES = Pattern.compile("(?:byte\\[\\] \\w+ = \\{|for \\().*;");

    private static final List<String> calls = new ArrayList<>();
    private static final List<String> due = new ArrayList<>();
    private static final Set<String> methods = new TreeSet<>();

    public static void main(String[] args) throws Exception {
        List<String> lines = Files.readAllLines(README);
        String program = programOf(lines);
        List<String> answers = answersOf(program);
        for (int k = 0; k < calls.size(); k++) {
            String got = k < answers.size() ? answers.get(k) : "nothing";
            dueTrue(calls.get(k) + " answers " + got + ", not " + due.get(k), got.equals(due.get(k)));
        }
        wholeFaceIsShown();
        testsAreListed(String.join("\n", lines));
        Check.end();
    }

    private static void dueTrue(String what, boolean holds) {
        Check.due(what, 1, holds ? 1 : 0);
    }

    /** Every block of the README in a scope of its own, each call's answer put into a list. */
    private static String programOf(List<String> lines) {
        StringBuilder program = new StringBuilder("public final class ReadmeCalls {\n"
            + "public static void make(java.util.List<String> answers) {\n");
        boolean inside = false;
        for (int k = 0; k < lines.size(); k++) {
            String line = lines.get(k);
            if (line.startsWith("```")) {
                inside = !inside;
                dueTrue("README.md:" + (k + 1) + " is Java", !inside || line.equals("```java"));
                program.append(inside ? "{\n" : "}\n");
            } else if (inside) {
                program.append(statementOf(line, k + 1));
            }
        }
        dueTrue("the last block ends", !inside);
        return program.append("}\n}\n").toString();
    }

    private static String statementOf(String line, int number) {
        Matcher call = CALL.matcher(line);
        if (!call.matches()) {
            dueTrue("README.md:" + number + " has no answer: " + line,
                line.equals(MADE) || PREPARES.matcher(line).matches());
            return line + "\n";
        }
        calls.add("README.md:" + number + " " + call.group(2));
        methods.add(call.group(3));
        due.add(call.group(4));
        if (call.group(1) != null) {
            return "int " + call.group(1) + " = " + call.group(2) + ";\n"
                + "answers.add(String.valueOf(" + call.group(1) + "));\n";
        }
        return "try { answers.add(String.valueOf(" + call.group(2) + ")); }\n"
            + "catch (RuntimeException e) { answers.add(\"throws \" + e.getClass().getSimpleName()); }\n";
    }

    private static List<String> answersOf(String program) throws Exception {
        List<String> answers = new ArrayList<>();
        Path made = Files.createTempDirectory("readme");
        try {
            Path source = Files.writeString(made.resolve("ReadmeCalls.java"), program);
            JavaCompiler compiler = ToolProvider.getSystemJavaCompiler();
            String with = System.getProperty("java.class.path");
            int exit = compiler.run(null, null, null, "-cp", with, "-d", made.toString(), source.toString());
            Check.due("README.md's Java compiles", 0, exit);
            if (exit == 0) {
                try (URLClassLoader loader = new URLClassLoader(new URL[] {made.toUri().toURL()})) {
                    loader.loadClass("ReadmeCalls").getMethod("make", List.class).invoke(null, answers);
                }
            }
        } finally {
            Files.deleteIfExists(made.resolve("ReadmeCalls.java"));
            Files.deleteIfExists(made.resolve("ReadmeCalls.class"));
            Files.deleteIfExists(made);
        }
        return answers;
    }

    private static void wholeFaceIsShown() {
        for (Method m : LinRows.class.getDeclaredMethods()) {
            if (Modifier.isPublic(m.getModifiers())) {
                dueTrue("README.md shows a call of " + m.getName(), methods.contains(m.getName()));
            }
        }
    }

    /** Each test is named in the README, and each test and method that it names is there. */
    private static void testsAreListed(String readme) throws IOException {
        dueTrue("README.md says how to run the tests", readme.contains("\n    .ci/run\n"));
        try (Stream<Path> files = Files.list(TESTS)) {
            for (Path file : (Iterable<Path>) files::iterator) {
                String name = file.getFileName().toString().replace(".java", "");
                dueTrue("README.md names " + name, !name.endsWith("Test") || readme.contains(name));
            }
        }
        Matcher named = Pattern.compile("(\\w+Test)\\b(?:\\.(?!java)(\\w+))?").matcher(readme);
        while (named.find()) {
            Path file = TESTS.resolve(named.group(1) + ".java");
            boolean there = Files.isRegularFile(file);
            dueTrue(named.group() + " is there", there && (named.group(2) == null
                || Files.readString(file).contains("void " + named.group(2) + "(")));
        }
    }
}
