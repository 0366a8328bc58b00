import java.io.File;
import java.io.IOException;
import java.lang.reflect.Method;
import java.net.URL;
import java.net.URLClassLoader;
import java.nio.file.Files;
import java.nio.file.Path;
import java.util.ArrayList;
import java.util.List;
import java.util.Set;
import java.util.TreeSet;
import java.util.regex.Matcher;
import java.util.regex.Pattern;
import javax.tools.ToolProvider;

/** The example of README.md: each of its calls answers what stands behind it, and no call is left out. */
public final class ReadmeTest {
    // Perhaps a variable, the call with its name, and its answer up to a comma.
    private static final Pattern CALL = Pattern.compile(
            "(?:int (\\w+) = )?(ledger\\.(\\w+)\\(.*\\)); +// ([^ ,]+)(,.*)?");
    private static final Check CHECK = new Check("ReadmeTest");

    public static void main(String[] args) throws IOException, ReflectiveOperationException {
        CHECK.part("README.md");
        List<String> code = new ArrayList<>();
        List<String> calls = new ArrayList<>();
        List<String> dues = new ArrayList<>();
        Set<String> names = new TreeSet<>();
        for (String line : exampleLines()) {
            Matcher call = CALL.matcher(line);
            if (call.matches()) {
                code.add(keepingAnswer(call.group(1), call.group(2)));
                calls.add(call.group(2));
                dues.add(call.group(4).replace("NONE", "-1"));
                names.add(call.group(3));
            } else {
                CHECK.no(line + " has a call without its answer", line.startsWith("ledger") || line.startsWith("int"));
                code.add(line);
            }
        }
        checkAnswers(calls, dues, answersOf(code));
        checkNames(names);
        CHECK.end();
    }

    private static List<String> exampleLines() throws IOException {
        List<String> all = Files.readAllLines(Path.of("README.md"));
        List<String> behind = all.subList(all.indexOf("```java") + 1, all.size());
        return behind.subList(0, behind.indexOf("```"));
    }

    private static String keepingAnswer(String variable, String call) {
        return variable == null ? "answers.add(" + call + ");"
                : "int " + variable + " = " + call + "; answers.add(" + variable + ");";
    }

    private static List<Object> answersOf(List<String> code) throws IOException, ReflectiveOperationException {
        List<Object> answers = new ArrayList<>();
        Path directory = Files.createTempDirectory("readme");
        Path source = directory.resolve("Example.java");
        Files.writeString(source, "public class Example { public static void run(java.util.List<Object> answers) {\n"
                + String.join("\n", code) + "\n} }\n");
        int failed = ToolProvider.getSystemJavaCompiler().run(null, null, null, "-cp",
                System.getProperty("java.class.path"), source.toString());
        CHECK.is("the compiler", failed, 0);
        if (failed == 0) {
            try (URLClassLoader loader = new URLClassLoader(new URL[] {directory.toUri().toURL()})) {
                loader.loadClass("Example").getMethod("run", List.class).invoke(null, answers);
            }
        }
        for (File file : directory.toFile().listFiles()) {
            Files.delete(file.toPath());
        }
        Files.delete(directory);
        return answers;
    }

    private static void checkAnswers(List<String> calls, List<String> dues, List<Object> answers) {
        CHECK.is("calls that answered", answers.size(), calls.size());
        for (int i = 0; i < answers.size(); i++) {
            String told = calls.get(i) + " answered " + answers.get(i) + ", README.md says " + dues.get(i);
            CHECK.yes(told, dues.get(i).equals(String.valueOf(answers.get(i))));
        }
    }

    private static void checkNames(Set<String> names) {
        for (Method method : HouseLedger.class.getMethods()) {
            if (method.getDeclaringClass() == HouseLedger.class) {
                CHECK.yes(method.getName() + " is in the example", names.contains(method.getName()));
            }
        }
    }
}
