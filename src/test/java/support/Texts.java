/** Texts that have a FAULT, and texts that have none. */
final class Texts {
    private Texts() {
    }

    static void fault(String text, int number, int at) {
        OnionProbate x = new OnionProbate();
        Check.feedAll(x, text);
        Check.due("probate of " + text, x.probate(), -10 - number);
        Check.due("fault of " + text, x.fault(), at);
        Check.due("no case by " + text, x.told(0), 0);
        Check.due("text is gone: " + text, x.told(4), 0);
    }

    static void fine(String text, int layers) {
        OnionProbate x = new OnionProbate();
        Check.feedAll(x, text);
        Check.due("probate of " + text, x.probate(), layers);
        Check.due("fault of " + text, x.fault(), OnionProbate.NONE);
        Check.due("case by " + text, x.told(0), 1);
        Check.due("text is gone: " + text, x.told(4), 0);
    }
}
