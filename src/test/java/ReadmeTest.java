import java.io.IOException;
import java.net.URL;
import java.net.URLClassLoader;
import java.nio.file.Files;
import java.nio.file.Path;
import java.util.ArrayList;
import java.util.HashSet;
import java.util.List;
import java.util.Set;
import java.util.regex.Matcher;
import java.util.regex.Pattern;
import javax.tools.ToolProvider;

/**
 * The examples of README.md. They are compiled as they stand there, so that what is tested is what
 * is read; each call has to answer what its line says.
 */
public final class ReadmeTest {
    private static final Checks CHECKS = new Checks("ReadmeTest");
    private static final Path README = Path.of("README.md");
    private static final String NEW_OBJECT = "SheetKernel x = new SheetKernel();";
    private static final Pattern CALL =
        Pattern.compile("x\\.(\\w+)\\([^;]*\\); +// (-?\\d+|true|false|REFUSED|NONE|FULL)([.,:;] .*|\\.)?");

    public static void main(String[] args) throws IOException, ReflectiveOperationException {
        List<List<String>> examples = examplesOf(Files.readAllLines(README));
        CHECKS.due("README.md has examples", true, !examples.isEmpty());
        Set<String> called = new HashSet<>();
        for (List<String> example : examples) {
            List<String> calls = callsOf(example);
            called.addAll(namesOf(calls));
            compare(calls, answersTo(calls));
        }
        for (String name : List.of("spawn", "poke", "peek", "kill", "run", "process", "page", "printed", "count")) {
            CHECKS.due("an example calls " + name, true, called.contains(name));
        }
        CHECKS.end();
    }

    private static List<List<String>> examplesOf(List<String> lines) {
        List<List<String>> examples = new ArrayList<>();
        boolean inside = false;
        for (String line : lines) {
            if (line.equals("```java")) {
                inside = true;
                examples.add(new ArrayList<>());
            } else if (line.startsWith("```")) {
                inside = false;
            } else if (inside) {
                examples.get(examples.size() - 1).add(line);
            }
        }
        return examples;
    }

    /** A line that is no call with an answer is wrong, as it would not be compared. */
    private static List<String> callsOf(List<String> example) {
        List<String> calls = new ArrayList<>();
        for (int i = 0; i < example.size(); i++) {
            String line = example.get(i);
            if (i == 0) {
                CHECKS.due("an example begins with " + line, true, line.equals(NEW_OBJECT));
            } else if (CALL.matcher(line).matches()) {
                calls.add(line);
            } else {
                CHECKS.due("a call with its answer: " + line, true, false);
            }
        }
        CHECKS.due("an example has calls, at most 512", true, !calls.isEmpty() && calls.size() <= 512);
        return calls;
    }

    private static Set<String> namesOf(List<String> calls) {
        Set<String> names = new HashSet<>();
        for (String call : calls) {
            names.add(partOf(call, 1));
        }
        return names;
    }

    private static String partOf(String call, int part) {
        Matcher matcher = CALL.matcher(call);
        return matcher.matches() ? matcher.group(part) : "";
    }

    private static void compare(List<String> calls, List<?> answers) {
        CHECKS.due("answers", calls.size(), answers.size());
        for (int i = 0; i < Math.min(calls.size(), answers.size()); i++) {
            String call = calls.get(i);
            CHECKS.due(call, numberOf(partOf(call, 2)), numberOf(answers.get(i).toString()));
        }
    }

    private static long numberOf(String answer) {
        switch (answer) {
            case "true": return 1;
            case "false": return 0;
            case "REFUSED": return SheetKernel.REFUSED;
            case "NONE": return SheetKernel.NONE;
            case "FULL": return SheetKernel.FULL;
            default: return Long.parseLong(answer);
        }
    }

    private static List<?> answersTo(List<String> calls) throws IOException, ReflectiveOperationException {
        Path folder = Files.createTempDirectory("readme");
        Path source = folder.resolve("ReadmeExample.java");
        try {
            Files.writeString(source, programOf(calls));
            String path = System.getProperty("java.class.path");
            int exit = ToolProvider.getSystemJavaCompiler().run(null, null, null,
                "-cp", path, "-d", folder.toString(), source.toString());
            CHECKS.due("an example compiles", 0, exit);
            return exit == 0 ? answersOf(folder) : List.of();
        } finally {
            Files.deleteIfExists(source);
            Files.deleteIfExists(folder.resolve("ReadmeExample.class"));
            Files.deleteIfExists(folder);
        }
    }

    private static String programOf(List<String> calls) {
        StringBuilder program = new StringBuilder("public final class ReadmeExample {\n");
        program.append("public static java.util.List<Object> answers() {\n");
        program.append("java.util.List<Object> answers = new java.util.ArrayList<>();\n");
        program.append(NEW_OBJECT).append('\n');
        for (String call : calls) {
            program.append("answers.add(").append(call, 0, call.indexOf(';')).append(");\n");
        }
        return program.append("return answers;\n}\n}\n").toString();
    }

    private static List<?> answersOf(Path folder) throws IOException, ReflectiveOperationException {
        URL[] folders = {folder.toUri().toURL()};
        try (URLClassLoader loader = new URLClassLoader(folders)) {
            return (List<?>) loader.loadClass("ReadmeExample").getMethod("answers").invoke(null);
        }
    }
}
