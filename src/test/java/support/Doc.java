import java.io.IOException;
import java.io.UncheckedIOException;
import java.nio.file.Files;
import java.nio.file.Path;
import java.util.BitSet;
import java.util.regex.Matcher;
import java.util.regex.Pattern;

/** The document: a test names the words that it holds the class to, and they must stand there. */
final class Doc {
    private static final String TEXT = read();
    private static final BitSet NAMED = new BitSet();
    /** Words of the document by which a boundary is named. */
    private static final Pattern BOUNDARY = Pattern.compile("UNKNOWN|OUTSIDE|\\bNOT\\b|FULL|NONE|\\.\\.|at most|at least"
        + "|fewer|fewest|like ones|like partings|if there|there is no|empty|once|without|longer|deeper|more than|or more"
        + "|STOPPED or not|nothing can be undone|13th|sixth|seventh|ninth");

    private Doc() {
    }

    private static String read() {
        try {
            return Files.readString(Path.of("../shared/DOC.md"));
        } catch (IOException e) {
            throw new UncheckedIOException(e);
        }
    }

    private static int start(int promise) {
        return TEXT.indexOf(promise == 0 ? "\n## Terms" : "\n## Promise " + promise + ":");
    }

    private static int end(int promise) {
        return TEXT.indexOf("\n## ", start(promise) + 1);
    }

    /** What is checked from here on, till the next words: they stand in this promise (0: in 'Terms'). */
    static void says(int promise, String words) {
        int at = TEXT.indexOf(words, Math.max(0, start(promise)));
        boolean there = start(promise) >= 0 && at >= 0 && at + words.length() <= end(promise);
        Check.sentence = (promise == 0 ? "Terms: " : "Promise " + promise + ": ") + words;
        Check.isSo("these words stand in the document", there);
        if (there) {
            NAMED.set(at, at + words.length());
        }
    }

    /** Each place of the document that names a boundary lies in words that a test has named. */
    static void everyBoundaryIsNamed() {
        Check.sentence = "";
        Matcher m = BOUNDARY.matcher(TEXT);
        m.region(start(0), TEXT.indexOf("\n## Not promised"));
        int found = 0;
        while (m.find()) {
            found++;
            boolean named = NAMED.get(m.start()) && NAMED.get(m.end() - 1);
            String about = TEXT.substring(m.start() - 40, m.end() + 40).replace('\n', ' ');
            Check.isSo("a test names '" + m.group() + "' in: .." + about + "..", named);
        }
        Check.isSo("the document has boundaries", found > 100);
        for (int promise = 1; promise <= 33; promise++) {
            int first = NAMED.nextSetBit(start(promise));
            Check.isSo("a test names promise " + promise, first >= 0 && first < end(promise));
        }
    }
}
