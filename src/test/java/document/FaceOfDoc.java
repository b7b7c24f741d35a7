import java.io.IOException;
import java.io.UncheckedIOException;
import java.lang.reflect.Method;
import java.nio.file.Files;
import java.nio.file.Path;
import java.util.ArrayList;
import java.util.List;
import java.util.Map;
import java.util.regex.Matcher;
import java.util.regex.Pattern;

/** 'The public face', what the interface says ahead of the calls, and the head of each promise. */
final class FaceOfDoc {
    private static final Pattern AHEAD = Pattern.compile("Ahead of the calls (.*) the interface says: (---- .*)\\.");
    private static final Pattern PUBLIC = Pattern.compile("    public int (\\w+)\\(.*\\) \\{");

    private FaceOfDoc() {
    }

    static void check() {
        face();
        constants();
        aheadOfCalls();
        headsOfPromises();
        Check.sentence = "";
    }

    private static boolean has(String signature) {
        for (Method m : OnionProbate.class.getMethods()) {
            if (m.getDeclaringClass() == OnionProbate.class && Face.signature(m).equals(signature)) {
                return m.getReturnType() == int.class;
            }
        }
        return false;
    }

    private static void face() {
        for (String line : Doc.lines(Doc.FACE)) {
            if (line.contains("public")) {
                Doc.says(Doc.FACE, line);
            }
        }
        Check.due("so many calls", Face.calls().size(), 32);
        for (Map.Entry<String, String> call : Face.calls().entrySet()) {
            Check.isSo("the class has " + call, has(call.getValue()));
        }
    }

    private static void constants() {
        Doc.says(Doc.FACE, "NONE = -1, UNKNOWN = -1000000001, OUTSIDE = -1000000002, NOT = -1000000003, "
            + "FULL = -1000000004;");
        Check.due("so many constants", Face.constants().size(), 5);
        for (Map.Entry<String, Integer> constant : Face.constants().entrySet()) {
            try {
                int value = OnionProbate.class.getField(constant.getKey()).getInt(null);
                Check.due(constant.getKey(), value, constant.getValue());
            } catch (ReflectiveOperationException e) {
                Check.isSo("the class has " + constant, false);
            }
        }
    }

    /** The calls that stand in the file behind a comment '---- ..' and ahead of the next. */
    private static List<String> callsBehind(String comment) {
        List<String> calls = new ArrayList<>();
        boolean here = false;
        for (String line : source()) {
            if (line.strip().startsWith("// ----")) {
                here = line.strip().equals("// " + comment);
            }
            Matcher m = PUBLIC.matcher(line);
            if (here && m.matches()) {
                calls.add(m.group(1));
            }
        }
        return calls;
    }

    private static List<String> source() {
        try {
            return Files.readAllLines(Path.of("src/main/java/OnionProbate.java"));
        } catch (IOException e) {
            throw new UncheckedIOException(e);
        }
    }

    private static void aheadOfCalls() {
        List<String> all = new ArrayList<>();
        for (String line : Doc.lines(Doc.TERMS)) {
            Matcher m = AHEAD.matcher(line);
            if (m.matches()) {
                Doc.says(0, line);
                List<String> calls = List.of(m.group(1).replace("`", "").split(", "));
                Check.isSo("the file has " + callsBehind(m.group(2)), callsBehind(m.group(2)).equals(calls));
                all.addAll(calls);
            }
        }
        Check.isSo("all calls stand behind one of these", all.equals(List.copyOf(Face.calls().keySet())));
    }

    private static void headsOfPromises() {
        List<String> names = List.copyOf(Face.calls().keySet());
        Doc.says(1, "`OnionProbate()`:");
        Check.due("constructors", OnionProbate.class.getConstructors().length, 1);
        Check.due("its parameters", OnionProbate.class.getConstructors()[0].getParameterCount(), 0);
        for (int promise = 2; promise <= Doc.PROMISES; promise++) {
            String name = names.get(promise - 2);
            String[] lines = Doc.lines(promise);
            Check.isSo("heading of " + promise, lines[0].equals("## Promise " + promise + ": " + name));
            String head = lines[2].substring(0, lines[2].indexOf("`: ") + 2);
            Doc.says(promise, head);
            String types = head.replaceAll("^`int |`:$", "").replaceAll("(int|boolean) \\w+", "$1").replace(" ", "");
            Check.isSo("the class has " + types, has(types));
        }
    }
}
