import java.io.IOException;
import java.io.StringWriter;
import java.lang.reflect.Method;
import java.lang.reflect.Modifier;
import java.net.URL;
import java.net.URLClassLoader;
import java.nio.file.Files;
import java.nio.file.Path;
import java.util.ArrayList;
import java.util.Comparator;
import java.util.List;
import java.util.concurrent.Callable;
import java.util.regex.Matcher;
import java.util.regex.Pattern;
import java.util.stream.Collectors;
import java.util.stream.Stream;
import javax.tools.JavaCompiler;
import javax.tools.StandardJavaFileManager;
import javax.tools.ToolProvider;

/**
 * Each example of README.md compiles as it stands, and each call in it answers what the comment behind it names:
 * {@code call; // answer} or {@code call; // throws ExceptionName}, and behind a colon what the reader is told.
 */
public final class ReadmeTest {
    private static final Pattern ROW =
        Pattern.compile("(?:int (\\w+) = )?(service\\.\\w+\\(.*\\));\\s*// (throws \\w+|-?\\w+)(?:: .*)?");

    private static int calls = 0;
    private static int wrong = 0;

    public static void main(String[] args) throws Exception {
        List<List<String>> examples = examples(Files.readAllLines(Path.of("README.md")));
        if (examples.isEmpty()) {
            fault("there is no example");
        }
        showsEveryCall(examples);
        Path folder = Files.createTempDirectory("readme");
        try {
            if (compile(folder, "AsTheyStand", asTheyStand(examples))
                    && compile(folder, "Checked", checked(examples))) {
                play(folder, examples.size());
            }
        } finally {
            remove(folder);
        }
        System.out.println(examples.size() + " examples, " + calls + " calls, " + wrong + " wrong");
        if (wrong != 0) {
            System.exit(1);
        }
    }

    /** Called by the checked examples; public, since another loader loads them. */
    public static void due(String row, String due, Callable<Object> call) {
        calls++;
        String got;
        try {
            got = String.valueOf(call.call());
        } catch (Exception e) {
            got = "throws " + e.getClass().getSimpleName();
        }
        if (!got.equals(due)) {
            fault(row + ", but it is: " + got);
        }
    }

    private static void fault(String what) {
        wrong++;
        System.out.println("README.md: " + what);
    }

    private static List<List<String>> examples(List<String> lines) {
        List<List<String>> examples = new ArrayList<>();
        boolean inside = false;
        for (String line : lines) {
            if (line.equals("```java")) {
                examples.add(new ArrayList<>());
                inside = true;
            } else if (line.startsWith("```")) {
                inside = false;
            } else if (inside) {
                examples.get(examples.size() - 1).add(line);
            }
        }
        return examples;
    }

    private static void showsEveryCall(List<List<String>> examples) {
        String text = examples.toString();
        for (Method method : ZnodeService.class.getDeclaredMethods()) {
            if (Modifier.isPublic(method.getModifiers()) && !text.contains("service." + method.getName() + "(")) {
                fault("no example shows " + method.getName());
            }
        }
    }

    private static String asTheyStand(List<List<String>> examples) {
        StringBuilder text = new StringBuilder("final class AsTheyStand {\n");
        for (int i = 0; i < examples.size(); i++) {
            text.append("static void example").append(i).append("() {\n");
            text.append(String.join("\n", examples.get(i))).append("\n}\n");
        }
        return text.append("}\n").toString();
    }

    private static String checked(List<List<String>> examples) {
        StringBuilder text = new StringBuilder("public final class Checked {\n");
        for (int i = 0; i < examples.size(); i++) {
            text.append("public static void example").append(i).append("() {\n");
            for (String row : examples.get(i)) {
                text.append(checkedRow(row)).append("\n");
            }
            text.append("}\n");
        }
        return text.append("}\n").toString();
    }

    private static String checkedRow(String row) {
        Matcher matcher = ROW.matcher(row);
        if (!matcher.matches()) {
            if (row.contains("service.")) {
                fault("a call without an answer: " + row);
            }
            return row;
        }
        String name = matcher.group(1);
        String kept = name == null ? "" : "int " + name + " = " + matcher.group(2) + "; ";
        String call = name == null ? matcher.group(2) : name;
        String quoted = row.replaceAll(" +", " ").replace("\\", "\\\\").replace("\"", "\\\"");
        return kept + "ReadmeTest.due(\"" + quoted + "\", \"" + matcher.group(3) + "\", () -> " + call + ");";
    }

    private static boolean compile(Path folder, String name, String text) throws IOException {
        Path file = Files.writeString(folder.resolve(name + ".java"), text);
        JavaCompiler compiler = ToolProvider.getSystemJavaCompiler();
        StringWriter said = new StringWriter();
        boolean compiled;
        try (StandardJavaFileManager files = compiler.getStandardFileManager(null, null, null)) {
            List<String> options =
                List.of("-d", folder.toString(), "-cp", System.getProperty("java.class.path"));
            compiled = compiler.getTask(said, files, null, options, null, files.getJavaFileObjects(file)).call();
        }
        if (!compiled) {
            fault("an example does not compile\n" + said);
        }
        return compiled;
    }

    private static void play(Path folder, int examples) throws Exception {
        try (URLClassLoader loader = new URLClassLoader(new URL[] {folder.toUri().toURL()})) {
            Class<?> checked = loader.loadClass("Checked");
            for (int i = 0; i < examples; i++) {
                checked.getMethod("example" + i).invoke(null);
            }
        }
    }

    private static void remove(Path folder) throws IOException {
        try (Stream<Path> walk = Files.walk(folder)) {
            for (Path path : walk.sorted(Comparator.reverseOrder()).collect(Collectors.toList())) {
                Files.delete(path);
            }
        }
    }
}
