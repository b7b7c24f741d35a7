/** Counts the answers that are not as due, and ends a test. */
public final class Check {
    private static int checked = 0;
    private static int wrong = 0;
    /** The document's words that the answers are held to now; empty: told by the call's own name. */
    static String sentence = "";

    private Check() {
    }

    static void due(String call, int got, int want) {
        checked++;
        if (got != want) {
            wrong++;
            System.out.println((sentence.isEmpty() ? "" : "[" + sentence + "] ") + call + " answered " + got
                + ", due is " + want);
        }
    }

    static void isSo(String what, boolean is) {
        due(what, is ? 1 : 0, 1);
    }

    static void feedAll(OnionProbate x, String text) {
        for (int i = 0; i < text.length(); i++) {
            due("feed " + i + " of " + text, x.feed(text.charAt(i)), i + 1);
        }
    }

    /** A new object with this CASE; its text must have no FAULT. */
    static OnionProbate of(String text) {
        OnionProbate x = new OnionProbate();
        feedAll(x, text);
        int layers = x.probate();
        checked++;
        if (layers < 0) {
            wrong++;
            System.out.println(text + " has the fault " + layers + " at " + x.fault());
        }
        return x;
    }

    static void end() {
        System.out.println(checked + " answers, " + wrong + " wrong");
        if (wrong > 0 || checked == 0) {
            System.exit(1);
        }
    }
}
