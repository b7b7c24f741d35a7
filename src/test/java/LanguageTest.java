import java.io.IOException;
import java.lang.reflect.Constructor;
import java.lang.reflect.Field;
import java.lang.reflect.Method;
import java.lang.reflect.Modifier;
import java.nio.file.Files;
import java.nio.file.Path;
import java.util.Set;
import java.util.TreeSet;
import java.util.regex.Matcher;
import java.util.regex.Pattern;

/** The face of the document, and those rules of LANGUAGE.md that can be looked up in the file. */
public final class LanguageTest {
    /** Its blanks; what it answers (null: a constructor). */
    private static final Pattern METHOD = Pattern.compile("( {4}| {8})(?:(?:public|private|static) )*"
        + "(?:(int|void|boolean|long) )?(?!if|for|while|switch)\\w+\\([^()]*\\) \\{");

    public static void main(String[] args) throws IOException {
        face();
        classesInside();
        source();
        Check.end();
    }

    private static void face() {
        Check.isSo("public and final", Modifier.toString(OnionProbate.class.getModifiers()).equals("public final"));
        Set<String> found = new TreeSet<>();
        for (Method m : OnionProbate.class.getDeclaredMethods()) {
            if (!Modifier.isPrivate(m.getModifiers())) {
                found.add(Face.signature(m));
                Check.isSo(m + " is public, answers int", Modifier.toString(m.getModifiers()).equals("public")
                    && m.getReturnType() == int.class);
            }
        }
        Check.isSo("the face: " + found, found.equals(new TreeSet<>(Face.calls().values())));
        Set<String> constants = new TreeSet<>();
        for (Field f : OnionProbate.class.getDeclaredFields()) {
            if (!Modifier.isPrivate(f.getModifiers())) {
                constants.add(f.getName());
                Check.isSo(f + " is a constant", f.toString().startsWith("public static final int "));
            }
        }
        Check.isSo("the constants: " + constants, constants.equals(Face.constants().keySet()));
        Constructor<?>[] makers = OnionProbate.class.getDeclaredConstructors();
        Check.isSo("one public constructor", makers.length == 1 && makers[0].getParameterCount() == 0
            && Modifier.isPublic(makers[0].getModifiers()));
    }

    private static void classesInside() {
        Set<String> open = Face.calls().keySet();
        Class<?>[] inside = OnionProbate.class.getDeclaredClasses();
        Check.isSo("at most twelve classes", inside.length < 12);
        for (Class<?> c : inside) {
            Check.isSo(c + " is static", Modifier.isStatic(c.getModifiers()));
            Check.isSo(c + " is not public", !Modifier.isPublic(c.getModifiers()));
            Check.isSo(c + " has no class inside", c.getDeclaredClasses().length == 0);
            Check.isSo(c + " has few fields", c.getDeclaredFields().length <= 20);
            for (Method m : c.getDeclaredMethods()) {
                Check.isSo(m + " has a name of its own", !open.contains(m.getName()));
                Check.isSo(m + " has few parameters", m.getParameterCount() <= 7);
            }
        }
        for (Method m : OnionProbate.class.getDeclaredMethods()) {
            boolean isPublic = Modifier.isPublic(m.getModifiers());
            Check.isSo(m + " has a name of its own", isPublic || !open.contains(m.getName()));
        }
        for (Field f : OnionProbate.class.getDeclaredFields()) {
            int how = f.getModifiers();
            Check.isSo(f + " is no static state", !Modifier.isStatic(how) || Modifier.isFinal(how));
        }
    }

    private static void source() throws IOException {
        String text = Files.readString(Path.of("src/main/java/OnionProbate.java"));
        Check.isSo("plain signs alone", text.chars().allMatch(c -> c == '\n' || c >= 32 && c < 127));
        String code = text.replaceAll("(?s)/\\*.*?\\*/", "").replaceAll("//[^\n]*", "");
        String[] ruledOut = {"throw", "throws", "try", "catch", "synchronized", "assert", "package", "import",
            "protected", "native", "volatile", "transient", "Object", "double", "float", "equals", "hashCode",
            "toString", "Exact", "nanoTime", "currentTimeMillis", "random", "Thread", "->", "::", "\""};
        for (String word : ruledOut) {
            String pattern = Character.isLetter(word.charAt(0)) ? "\\b\\w*" + word + "\\b" : Pattern.quote(word);
            if (word.equals("try") || word.equals("throw") || word.equals("catch")) {
                pattern = "\\b" + word + "\\b";
            }
            Matcher m = Pattern.compile(pattern).matcher(code);
            Check.isSo("no " + word, !m.find());
        }
        Set<String> library = new TreeSet<>();
        Matcher m = Pattern.compile("\\b(System|Math|Integer|Long|Arrays|String|StringBuilder)\\.\\w+").matcher(code);
        while (m.find()) {
            library.add(m.group());
        }
        Check.isSo("the library: " + library, Set.of("System.arraycopy", "Math.min", "Math.max", "Integer.bitCount")
            .containsAll(library));
        methods(code);
    }

    /** Rules 11 and 12: each is short, and only a constructor makes rows, so that no call makes any. */
    private static void methods(String code) {
        String[] lines = code.split("\n", -1);
        int found = 0;
        for (int i = 0; i < lines.length; i++) {
            Matcher head = METHOD.matcher(lines[i]);
            if (head.matches()) {
                found++;
                int end = i;
                while (!lines[end].equals(head.group(1) + "}")) {
                    Check.isSo(lines[end].strip() + " makes nothing", head.group(2) == null
                        || !lines[end].matches(".*\\bnew\\b.*"));
                    end++;
                }
                Check.isSo(lines[i].strip() + " is short", end - i < 60);
            }
        }
        Check.isSo("the methods are found: " + found, found > 33);
    }
}
