import java.io.IOException;
import java.lang.reflect.Constructor;
import java.lang.reflect.Field;
import java.lang.reflect.Method;
import java.lang.reflect.Modifier;
import java.nio.file.Files;
import java.nio.file.Path;
import java.util.Arrays;
import java.util.HashSet;
import java.util.Set;
import java.util.TreeSet;
import java.util.regex.Matcher;
import java.util.regex.Pattern;

/** The face of the document, and those rules of LANGUAGE.md that can be looked up in the file. */
public final class LanguageTest {
    private static final String FACE = "feed(int) probate() fault() told(int) layer(int,int) executor(int,int) "
        + "type(int,int) logged(int,int) peel(int) stop(boolean) visit() year(int) drift(int) undo(int) "
        + "worthIt(int,int) parts(int,int) byTurns(int) twoSides(int) nextKind(int) allows(int) run(int) fair(int) "
        + "dry(int,int) guess(int,int,boolean) couldBe() ask() write(int,int) judge() tear() seed(int) keep(int) "
        + "goBack(int)";

    public static void main(String[] args) throws IOException {
        face();
        classesInside();
        source();
        Check.end();
    }

    private static void face() {
        Check.isSo("public and final", Modifier.toString(OnionProbate.class.getModifiers()).equals("public final"));
        Set<String> found = new TreeSet<>();
        for (Method m : OnionProbate.class.getDeclaredMethods()) {
            if (!Modifier.isPrivate(m.getModifiers())) {
                String types = String.join(",", Arrays.stream(m.getParameterTypes()).map(Class::getName).toList());
                found.add(m.getName() + "(" + types + ")");
                Check.isSo(m + " is public, answers int", Modifier.toString(m.getModifiers()).equals("public")
                    && m.getReturnType() == int.class);
            }
        }
        Check.isSo("the face: " + found, found.equals(new TreeSet<>(Arrays.asList(FACE.split(" ")))));
        Set<String> constants = new TreeSet<>();
        for (Field f : OnionProbate.class.getDeclaredFields()) {
            if (!Modifier.isPrivate(f.getModifiers())) {
                constants.add(Modifier.toString(f.getModifiers()) + " " + f.getType() + " " + f.getName());
            }
        }
        Check.isSo("the constants: " + constants, constants.toString().equals("[public static final int FULL, "
            + "public static final int NONE, public static final int NOT, public static final int OUTSIDE, "
            + "public static final int UNKNOWN]"));
        Constructor<?>[] makers = OnionProbate.class.getDeclaredConstructors();
        Check.isSo("one public constructor", makers.length == 1 && makers[0].getParameterCount() == 0
            && Modifier.isPublic(makers[0].getModifiers()));
    }

    private static void classesInside() {
        Set<String> open = new HashSet<>();
        for (String method : FACE.split(" ")) {
            open.add(method.substring(0, method.indexOf('(')));
        }
        Class<?>[] inside = OnionProbate.class.getDeclaredClasses();
        Check.isSo("at most twelve classes", inside.length < 12);
        for (Class<?> c : inside) {
            Check.isSo(c + " is static", Modifier.isStatic(c.getModifiers()));
            Check.isSo(c + " has few fields", c.getDeclaredFields().length <= 20);
            for (Method m : c.getDeclaredMethods()) {
                Check.isSo(m + " has a name of its own", !open.contains(m.getName()));
                Check.isSo(m + " has few parameters", m.getParameterCount() <= 7);
            }
        }
        for (Method m : OnionProbate.class.getDeclaredMethods()) {
            Check.isSo(m + " has a name of its own", Modifier.isPublic(m.getModifiers()) || !open.contains(m.getName()));
        }
    }

    private static void source() throws IOException {
        String text = Files.readString(Path.of("src/main/java/OnionProbate.java"));
        Check.isSo("plain signs alone", text.chars().allMatch(c -> c == '\n' || c >= 32 && c < 127));
        String code = text.replaceAll("(?s)/\\*.*?\\*/", "").replaceAll("//[^\n]*", "");
        String[] ruledOut = {"throw", "throws", "try", "catch", "synchronized", "assert", "package", "import",
            "protected", "native", "volatile", "transient", "Object", "double", "float", "equals", "hashCode",
            "toString", "Exact", "nanoTime", "currentTimeMillis", "random", "Thread", "->", "::", "\""};
        for (String word : ruledOut) {
            String pattern = Character.isLetter(word.charAt(0)) ? "\\b\\w*" + word + "\\b" : Pattern.quote(word);
            if (word.equals("try") || word.equals("throw") || word.equals("catch")) {
                pattern = "\\b" + word + "\\b";
            }
            Matcher m = Pattern.compile(pattern).matcher(code);
            Check.isSo("no " + word, !m.find());
        }
        Set<String> library = new TreeSet<>();
        Matcher m = Pattern.compile("\\b(System|Math|Integer|Long|Arrays|String|StringBuilder)\\.\\w+").matcher(code);
        while (m.find()) {
            library.add(m.group());
        }
        Check.isSo("the library: " + library, Set.of("System.arraycopy", "Math.min", "Math.max", "Integer.bitCount")
            .containsAll(library));
        methodLengths(code);
    }

    private static void methodLengths(String code) {
        int start = 0;
        String[] lines = code.split("\n", -1);
        for (int i = 0; i < lines.length; i++) {
            if (lines[i].matches(" {4,8}\\w.*\\) \\{")) {
                start = i;
            }
            if (lines[i].matches(" {4,8}\\}")) {
                Check.isSo("the method at line " + start + " is short", i - start <= 60 || lines[i].startsWith("    }"));
            }
        }
    }
}
