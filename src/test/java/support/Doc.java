import java.io.IOException;
import java.io.UncheckedIOException;
import java.nio.file.Files;
import java.nio.file.Path;
import java.util.BitSet;

/** The document: a test names the words that it holds the class to, and they must stand there. */
final class Doc {
    /** Sections that are no promise. */
    static final int WHAT_IT_IS = -2, FACE = -1, TERMS = 0;
    static final int PROMISES = 33;

    /** So a section of 'Terms' begins, ahead of its figure. */
    private static final String SECTION = "======== ";
    private static final String TEXT = read();
    private static final BitSet NAMED = new BitSet();

    private Doc() {
    }

    private static String read() {
        try {
            return Files.readString(Path.of("../shared/DOC.md"));
        } catch (IOException e) {
            throw new UncheckedIOException(e);
        }
    }

    private static int start(int section) {
        switch (section) {
            case WHAT_IT_IS: return TEXT.indexOf("\n## What it is");
            case FACE: return TEXT.indexOf("\n## The public face");
            case TERMS: return TEXT.indexOf("\n## Terms");
            default: return TEXT.indexOf("\n## Promise " + section + ":");
        }
    }

    private static int end(int section) {
        return TEXT.indexOf("\n## ", start(section) + 1);
    }

    /** A section's lines, its heading first. */
    static String[] lines(int section) {
        boolean there = start(section) >= 0 && end(section) >= 0;
        Check.isSo("section " + section + " is in the document", there);
        return there ? TEXT.substring(start(section) + 1, end(section)).split("\n") : new String[0];
    }

    /** What is checked from here on, till the next words: they stand in this promise, or (0) in 'Terms'. */
    static void says(int section, String words) {
        int at = TEXT.indexOf(words, Math.max(0, start(section)));
        boolean there = start(section) >= 0 && at >= 0 && at + words.length() <= end(section);
        Check.sentence = (section > 0 ? "Promise " + section + ": " : "") + words;
        Check.isSo("these words stand in the document", there);
        if (there) {
            NAMED.set(at, at + words.length());
        }
    }

    /**
     * From the first sentence that asks something of the class to the last promise, each letter and figure lies in
     * words that a test has named; headings and the story of 'What it is' ask nothing.
     */
    static void everyWordIsNamed() {
        Check.sentence = "";
        int from = TEXT.indexOf("An object is used for");
        int to = TEXT.indexOf("\n## Not promised");
        Check.isSo("the document is there", from >= 0 && to > from);
        int lineStart = Math.max(from, 0);
        while (lineStart < to) {
            int lineEnd = TEXT.indexOf('\n', lineStart);
            String line = TEXT.substring(lineStart, lineEnd);
            if (!line.startsWith("#") && !line.startsWith("```")) {
                lineIsNamed(lineStart + (line.startsWith(SECTION) ? SECTION.length() + 1 : 0), lineEnd);
            }
            lineStart = lineEnd + 1;
        }
    }

    private static void lineIsNamed(int from, int to) {
        int i = from;
        while (i < to) {
            int open = i;
            while (i < to && !NAMED.get(i)) {
                i++;
            }
            String left = TEXT.substring(open, i);
            Check.isSo("a test names '" + left + "'", left.chars().noneMatch(Character::isLetterOrDigit));
            i = Math.max(i, NAMED.nextClearBit(i));
        }
    }
}
