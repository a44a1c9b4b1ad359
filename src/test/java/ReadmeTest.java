import java.io.IOException;
import java.lang.reflect.InvocationTargetException;
import java.lang.reflect.Method;
import java.nio.file.Path;
import java.util.List;
import java.util.Set;
import java.util.TreeSet;
import java.util.regex.MatchResult;
import java.util.regex.Matcher;
import java.util.regex.Pattern;
import java.util.stream.Collectors;

/** README.md has every call of the face, with the exceptions that the document names, and a true example. */
public final class ReadmeTest {
    private static final Pattern HEADING = Pattern.compile("(?m)^### `([^`]*)`\n((?:(?!###? ).*\n)*)");
    private static final Pattern EXCEPTION = Pattern.compile("\\w+Exception");
    private static final Pattern EXAMPLE = Pattern.compile("```java\n(.*?)```", Pattern.DOTALL);
    private static final Pattern CALL = Pattern.compile("vault\\.(\\w+)\\((.*)\\); *// ([^:]*)(: .*)?");

    public static void main(String[] args) throws IOException, IllegalAccessException {
        String readme = java.nio.file.Files.readString(Path.of("README.md"));
        List<String> face = Document.read(Path.of("../shared/DOC.md")).face();
        Check.due("the calls with their exceptions", told(readme), String.join("\n", face));
        Matcher example = EXAMPLE.matcher(readme);
        Check.due("there is an example", example.find(), true);
        Set<String> called = run(example.group(1).lines().toList());
        Check.due("the calls of the example", called.toString(), methods().toString());
        Check.due("how to run the tests", readme.contains("\n    .ci/run\n"), true);
        everyTestIsNamed(readme);
        Check.end();
    }

    /** The headings with the exceptions under them, as the document would write these calls. */
    private static String told(String readme) {
        return HEADING.matcher(readme).results().map(ReadmeTest::told).collect(Collectors.joining("\n"));
    }

    private static String told(MatchResult section) {
        String thrown = EXCEPTION.matcher(section.group(2)).results().map(MatchResult::group)
            .collect(Collectors.joining(", "));
        boolean saysNothing = section.group(2).contains("Throws nothing.");
        Check.due(section.group(1) + " tells what it throws", saysNothing, thrown.isEmpty());
        return "public " + section.group(1) + (thrown.isEmpty() ? "" : " throws " + thrown) + ";";
    }

    /** Makes the calls of the example on a new vault; tells which methods it called. */
    private static Set<String> run(List<String> lines) throws IllegalAccessException {
        Check.due("the first line", lines.get(0), "CrashVault vault = new CrashVault();");
        CrashVault vault = new CrashVault();
        Set<String> called = new TreeSet<>();
        for (String line : lines.subList(1, lines.size())) {
            Matcher call = CALL.matcher(line);
            Check.due(line + " is a call with its answer", call.matches(), true);
            Check.due(line, answer(vault, call.group(1), call.group(2)), call.group(3));
            called.add(call.group(1));
        }
        return called;
    }

    private static String answer(CrashVault vault, String name, String arguments) throws IllegalAccessException {
        Method method = method(name);
        Class<?>[] types = method.getParameterTypes();
        String[] written = arguments.isEmpty() ? new String[0] : arguments.split(", ");
        Object[] values = new Object[written.length];
        for (int i = 0; i < written.length; i++) {
            values[i] = types[i] == long.class ? (Object) Long.valueOf(written[i].replace("L", ""))
                : (Object) Integer.valueOf(written[i]);
        }
        try {
            Object answer = method.invoke(vault, values);
            return method.getReturnType() == void.class ? "nothing" : answer.toString();
        } catch (InvocationTargetException e) {
            return "throws " + e.getCause().getClass().getSimpleName();
        }
    }

    private static Method method(String name) {
        for (Method method : CrashVault.class.getMethods()) {
            if (method.getName().equals(name)) {
                return method;
            }
        }
        throw new IllegalArgumentException("no such call: " + name);
    }

    private static Set<String> methods() {
        Set<String> names = new TreeSet<>();
        for (Method method : CrashVault.class.getMethods()) {
            if (method.getDeclaringClass() == CrashVault.class) {
                names.add(method.getName());
            }
        }
        return names;
    }

    private static void everyTestIsNamed(String readme) throws IOException {
        try (var sources = java.nio.file.Files.list(Path.of("src/test/java"))) {
            for (Path source : sources.sorted().toList()) {
                String name = source.getFileName().toString().replace(".java", "");
                Check.due(name + " is in README.md", readme.contains("`" + name + "`"), true);
            }
        }
    }
}
