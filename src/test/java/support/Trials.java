/** What is tried of a new CASE, in both of its answers. */
final class Trials {
    private Trials() {
    }

    static void part(String text, int n, int much, int first) {
        OnionProbate x = Check.of(text);
        Check.due("parts(" + n + ", 0) of " + text, x.parts(n, 0), much);
        Check.due("parts(" + n + ", 1) of " + text, x.parts(n, 1), first);
    }

    static void turns(String text, int more, int first) {
        OnionProbate x = Check.of(text);
        Check.due("byTurns(0) of " + text, x.byTurns(0), 1000 + more);
        Check.due("byTurns(1) of " + text, x.byTurns(1), first);
    }

    static void sides(String text, int first, int other, int last) {
        OnionProbate x = Check.of(text);
        Check.due("twoSides(0) of " + text, x.twoSides(0), first);
        Check.due("twoSides(1) of " + text, x.twoSides(1), other);
        Check.due("twoSides(2) of " + text, x.twoSides(2), last);
    }

    static void row(String text, int many, int first) {
        OnionProbate x = Check.of(text);
        Check.due("run(0) of " + text, x.run(0), many);
        Check.due("run(1) of " + text, x.run(1), first);
    }
}
