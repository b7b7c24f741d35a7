import java.lang.reflect.Method;
import java.util.ArrayList;
import java.util.Arrays;
import java.util.LinkedHashMap;
import java.util.List;
import java.util.Map;
import java.util.TreeMap;
import java.util.regex.Matcher;
import java.util.regex.Pattern;

/** The public face as the document writes it, and what the class has of it. */
final class Face {
    private static final Pattern CALL = Pattern.compile("\\s*public int (\\w+)\\((.*)\\);");
    private static final Pattern CONSTANT = Pattern.compile("(\\w+) = (-?\\d+)");

    private Face() {
    }

    /** The document's calls: 'layer(int,int)' by their names, in its order. */
    static Map<String, String> calls() {
        Map<String, String> calls = new LinkedHashMap<>();
        for (String line : Doc.lines(Doc.FACE)) {
            Matcher m = CALL.matcher(line);
            if (m.matches()) {
                calls.put(m.group(1), m.group(1) + "(" + types(m.group(2)) + ")");
            }
        }
        return calls;
    }

    /** Of 'int k, boolean is': int,boolean. */
    private static String types(String parameters) {
        List<String> types = new ArrayList<>();
        for (String parameter : parameters.split(",")) {
            types.add(parameter.strip().split(" ")[0]);
        }
        return String.join(",", types);
    }

    /** The document's constants. */
    static Map<String, Integer> constants() {
        Map<String, Integer> constants = new TreeMap<>();
        for (String line : Doc.lines(Doc.FACE)) {
            Matcher m = CONSTANT.matcher(line);
            while (m.find()) {
                constants.put(m.group(1), Integer.parseInt(m.group(2)));
            }
        }
        return constants;
    }

    static String signature(Method m) {
        return m.getName() + "(" + String.join(",", Arrays.stream(m.getParameterTypes()).map(Class::getName).toList())
            + ")";
    }
}
