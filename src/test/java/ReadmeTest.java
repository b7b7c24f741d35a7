import java.io.IOException;
import java.lang.reflect.InvocationTargetException;
import java.lang.reflect.Method;
import java.nio.file.Files;
import java.nio.file.Path;
import java.util.HashSet;
import java.util.List;
import java.util.Map;
import java.util.Set;
import java.util.TreeSet;
import java.util.regex.Matcher;
import java.util.regex.Pattern;
import java.util.stream.Stream;

/** README.md agrees with the class: its example is run, and it names all calls, constants and tests, and no other. */
public final class ReadmeTest {
    private static final Pattern TEXT = Pattern.compile("for \\(char c : \"(.*)\"\\.toCharArray\\(\\)\\) \\{");
    private static final Pattern CALL = Pattern.compile("x\\.(\\w+)\\((.*)\\); +// (-?\\w+):.*");
    private static final Pattern NAMED_CALL = Pattern.compile("`(\\w+)\\(([^`]*)\\)`");
    private static final Pattern CONSTANT = Pattern.compile("\\| `([A-Z]+)` \\| (-?\\d+) \\|.*");

    private ReadmeTest() {
    }

    public static void main(String[] args) throws IOException, ReflectiveOperationException {
        List<String> lines = Files.readAllLines(Path.of("README.md"));
        example(lines);
        calls(String.join("\n", lines));
        constants(lines);
        tests(lines);
        Check.end();
    }

    private static void example(List<String> lines) throws ReflectiveOperationException {
        OnionProbate x = new OnionProbate();
        int asked = 0;
        for (String line : lines) {
            Matcher text = TEXT.matcher(line);
            Matcher call = CALL.matcher(line);
            if (text.matches()) {
                Check.feedAll(x, text.group(1));
            } else if (call.matches()) {
                asked++;
                Check.due("README: " + line, answer(x, call.group(1), call.group(2)), number(call.group(3)));
            } else {
                Check.isSo("README: this is asked: " + line, !line.startsWith("x."));
            }
        }
        Check.isSo("the example asks something", asked > 10);
    }

    private static int number(String written) throws ReflectiveOperationException {
        String name = written.replaceFirst("^OnionProbate\\.", "");
        return name.matches("[A-Z]+") ? OnionProbate.class.getField(name).getInt(null) : Integer.parseInt(name);
    }

    private static int answer(OnionProbate x, String name, String written) throws ReflectiveOperationException {
        Object[] values = new Object[written.isEmpty() ? 0 : written.split(", ").length];
        for (int i = 0; i < values.length; i++) {
            String value = written.split(", ")[i];
            boolean isTruth = value.equals("true") || value.equals("false");
            values[i] = isTruth ? (Object) Boolean.valueOf(value) : (Object) number(value);
        }
        for (Method m : OnionProbate.class.getMethods()) {
            if (m.getName().equals(name) && m.getParameterCount() == values.length) {
                return (int) invoked(m, x, values);
            }
        }
        throw new NoSuchMethodException(name);
    }

    private static Object invoked(Method m, OnionProbate x, Object[] values) throws ReflectiveOperationException {
        try {
            return m.invoke(x, values);
        } catch (InvocationTargetException e) {
            throw new IllegalStateException("README: " + m.getName() + " threw", e);
        }
    }

    /** Each call of the face stands there by its name, with as many parameters as it has; none that is not. */
    private static void calls(String readme) {
        Map<String, String> face = Face.calls();
        Set<String> left = new HashSet<>(face.keySet());
        Matcher m = NAMED_CALL.matcher(readme);
        while (m.find()) {
            String types = face.getOrDefault(m.group(1), "");
            Check.isSo("README: " + m.group() + " is a call", !types.isEmpty());
            boolean none = m.group(2).isEmpty();
            Check.due("README: parameters of " + m.group(), none ? 0 : m.group(2).split(", ").length,
                types.endsWith("()") ? 0 : types.split(",").length);
            left.remove(m.group(1));
        }
        Check.isSo("README names all calls but " + left, left.isEmpty());
    }

    private static void constants(List<String> lines) throws ReflectiveOperationException {
        Set<String> left = new TreeSet<>(Face.constants().keySet());
        for (String line : lines) {
            Matcher m = CONSTANT.matcher(line);
            if (m.matches()) {
                Check.due("README: " + m.group(1), number(m.group(1)), Integer.parseInt(m.group(2)));
                left.remove(m.group(1));
            }
        }
        Check.isSo("README: NONE is no refusal, and the rest is told: " + left, left.equals(Set.of("NONE")));
        Check.isSo("README tells NONE", lines.stream().anyMatch(line -> line.startsWith("`NONE` is -1")));
    }

    private static void tests(List<String> lines) throws IOException {
        Set<String> told = new TreeSet<>();
        for (String line : lines) {
            if (line.matches("\\| \\w+Test \\| .*")) {
                told.add(line.split(" ")[1] + ".java");
            }
        }
        Set<String> there = new TreeSet<>();
        try (Stream<Path> files = Files.list(Path.of("src/test/java"))) {
            files.map(file -> file.getFileName().toString()).filter(name -> name.endsWith(".java")).forEach(there::add);
        }
        Check.isSo("README's tests " + told + ", those that there are " + there, told.equals(there));
    }
}
