/** Promises 16 to 24: what is tried, and that nothing changes by it. */
public final class TriedTest {
    public static void main(String[] args) {
        worthIt();
        parts();
        byTurns();
        twoSides();
        nextKind();
        allows();
        run();
        fair();
        dry();
        nothingChanges();
        Check.end();
    }

    private static void worthIt() {
        // What is said is worth its sting: only buttons behind another layer are a gain.
        OnionProbate x = Check.of("m0;l4 3;l0 6;l4 1;l4 1;l1 8;l4 1;e0 1;e1 1;e2 1;e5 1;e9 1;");
        int[] many = {6, 4, 4, 0, 0};
        int[] much = {1011, 1006, 1002, 1000, 1000};
        for (int e = 0; e < 5; e++) {
            Check.due("worthIt(" + e + ", 0)", x.worthIt(e, 0), many[e]);
            Check.due("worthIt(" + e + ", 1)", x.worthIt(e, 1), much[e]);
        }
        x.stop(true);
        Check.due("stopped or not", x.worthIt(1, 0), 4);
        Check.due("worthIt(5, 9)", x.worthIt(5, 9), OnionProbate.UNKNOWN);
        Check.due("worthIt(-1, 0)", x.worthIt(-1, 0), OnionProbate.UNKNOWN);
        Check.due("worthIt(0, 2)", x.worthIt(0, 2), OnionProbate.OUTSIDE);
        Check.due("worthIt(0, -1)", x.worthIt(0, -1), OnionProbate.OUTSIDE);
        x.stop(false);
        x.peel(0);
        x.peel(0);
        Check.due("the first is behind none from now on", x.worthIt(0, 1), 1006);
        Check.due("how many", x.worthIt(0, 0), 4);
        OnionProbate y = Check.of("m9;l0 4;l3 3;l2 7;e0 1;");
        Check.due("of like ones the fewest", y.worthIt(0, 0), 0);
        Check.due("nothing", y.worthIt(0, 1), 1000);
        Check.due("no layers", Check.of("m9;e0 1;").worthIt(0, 1), 1000);
    }

    private static void part(OnionProbate x, int n, int sting, int first) {
        Check.due("parts(" + n + ", 0)", x.parts(n, 0), sting);
        Check.due("parts(" + n + ", 1)", x.parts(n, 1), first);
    }

    private static void parts() {
        OnionProbate x = Check.of("m0;l2 4;l0 3;l4 9;l1 9;l3 6;");
        part(x, 1, 26, 5);
        part(x, 2, 15, 2);
        part(x, 3, 11, 2);
        part(x, 4, 9, 1);
        part(x, 5, 9, 1);
        OnionProbate y = Check.of("m0;l4 1;l4 1;l0 5;l4 1;");
        part(y, 2, 5, 1);
        part(y, 3, 5, 1);
        part(y, 4, 5, 1);
        part(y, 5, OnionProbate.NONE, OnionProbate.NONE);
        OnionProbate none = Check.of("m0;");
        part(none, 1, OnionProbate.NONE, OnionProbate.NONE);
        OnionProbate zero = Check.of("m0;l4 1;l4 1;");
        part(zero, 1, 0, 2);
        part(zero, 2, 0, 1);
        Check.due("parts(0, 0)", x.parts(0, 0), OnionProbate.OUTSIDE);
        Check.due("parts(6, 0)", x.parts(6, 0), OnionProbate.OUTSIDE);
        Check.due("parts(1, 2)", x.parts(1, 2), OnionProbate.OUTSIDE);
        Check.due("parts(1, -1)", x.parts(1, -1), OnionProbate.OUTSIDE);
        Check.due("outside, of none too", none.parts(5, 2), OnionProbate.OUTSIDE);
    }

    private static void byTurns() {
        Trials.turns("m0;", 0, 0);
        Trials.turns("m0;l0 7;", 7, 1);
        Trials.turns("m0;l4 7;", 0, 1);
        Trials.turns("m0;l0 7;l0 2;", 9, 2);
        Trials.turns("m0;l0 7;l4 2;", 7, 1);
        Trials.turns("m0;l0 1;l0 1;l0 20;", -18, 2);
        Trials.turns("m0;l0 1;l0 2;l0 20;", -17, 2);
        Trials.turns("m0;l0 1;l0 1;l0 1;l0 20;", 19, 1);
        Trials.turns("m0;l2 3;l1 5;l4 1;l3 2;l0 9;", 15, 2);
        Check.due("byTurns(2)", Check.of("m0;").byTurns(2), OnionProbate.OUTSIDE);
        Check.due("byTurns(-1)", Check.of("m0;").byTurns(-1), OnionProbate.OUTSIDE);
        Check.due("no case", new OnionProbate().byTurns(0), 1000);
    }

    private static void twoSides() {
        Trials.sides("m0;", 0, 0, OnionProbate.NONE);
        Trials.sides("m0;l2 4;", 8, 0, 0);
        Trials.sides("m0;l2 4;l1 7;", 8, 3, 1);
        Trials.sides("m0;l2 4;l1 7;l0 5;", 11, 5, 1);
        Trials.sides("m0;l2 4;l1 7;l0 5;l4 9;", 11, 5, 2);
        Check.due("twoSides(3)", Check.of("m0;").twoSides(3), OnionProbate.OUTSIDE);
        Check.due("twoSides(-1)", Check.of("m0;").twoSides(-1), OnionProbate.OUTSIDE);
    }

    private static void nextKind() {
        OnionProbate x = Check.of("m0;l0 1;l1 1;e0 1;t0,1,2;t0,1,2,2;t0,1,3;t0,1;t0;t0,2,2;");
        int[] due = {0, 0, 2, 1, 0};
        for (int kind = 0; kind < 5; kind++) {
            Check.due("nextKind(" + kind + ")", x.nextKind(kind), due[kind]);
        }
        Check.due("nextKind(5)", x.nextKind(5), OnionProbate.OUTSIDE);
        Check.due("nextKind(-1)", x.nextKind(-1), OnionProbate.OUTSIDE);
        Check.due("can be", x.told(10), 31);
        x.peel(0);
        Check.due("none begins so now", x.nextKind(2), 0);
        x.peel(0);
        Check.due("all begin so now", x.nextKind(0), 6);
        Check.due("all can be", x.told(10), 63);
        Check.due("sure", x.told(11), 0);
        Check.due("a type of eight, and eight layers",
            Check.of("m0;" + "l0 1;".repeat(8) + "t0,0,0,0,0,0,0,0;").nextKind(0), 0);
    }

    private static void allows() {
        OnionProbate x = Check.of("m0;l0 1;l1 1;l2 1;l0 1;l3 1;t1,0,1;t4,0;t3,3;t2;");
        int[] due = {1 << 1, 1 | 1 << 3, 0, 1 << 4, 1 | 1 << 3};
        for (int kind = 0; kind < 5; kind++) {
            Check.due("allows(" + kind + ")", x.allows(kind), due[kind]);
        }
        Check.due("allows(5)", x.allows(5), OnionProbate.OUTSIDE);
        Check.due("allows(-1)", x.allows(-1), OnionProbate.OUTSIDE);
        Check.due("no types", Check.of("m0;l0 1;").allows(0), 0);
        Check.due("no layers", Check.of("m0;t0,0;").allows(0), 0);
    }

    private static void run() {
        Trials.row("m0;", 0, OnionProbate.NONE);
        Trials.row("m0;l0 1;", 1, 0);
        Trials.row("m0;l0 1;l1 1;l1 2;l0 1;", 2, 1);
        Trials.row("m0;l0 1;l0 1;l1 2;l1 1;", 2, 0);
        Trials.row("m0;l0 1;l0 1;l1 2;l1 1;l1 1;", 3, 2);
        Check.due("run(2)", Check.of("m0;").run(2), OnionProbate.OUTSIDE);
        Check.due("run(-1)", Check.of("m0;").run(-1), OnionProbate.OUTSIDE);
    }

    private static void fair() {
        OnionProbate x = Check.of("m0;l0 9;l2 2;l0 3;l4 1;l1 8;l3 6;e0 1;e0 1;e0 1;");
        x.peel(1);
        int[] due = {0, 2, 2, 2, 0};
        for (int k = 0; k < due.length; k++) {
            Check.due("fair(" + k + ")", x.fair(k), due[k]);
        }
        Check.due("envy then", x.fair(OnionProbate.NONE), 3);
        Check.due("fair(5)", x.fair(5), OnionProbate.UNKNOWN);
        Check.due("fair(-2)", x.fair(-2), OnionProbate.UNKNOWN);
        OnionProbate alone = Check.of("m0;l0 9;");
        Check.due("no executor", alone.fair(0), OnionProbate.NONE);
        Check.due("no layer", alone.fair(1), OnionProbate.UNKNOWN);
        Check.due("no executor: no envy either", alone.fair(OnionProbate.NONE), OnionProbate.NONE);
        Check.due("no case: no envy", new OnionProbate().fair(OnionProbate.NONE), OnionProbate.NONE);
        Check.due("no case: no layer", new OnionProbate().fair(0), OnionProbate.UNKNOWN);
        Check.due("neither executor nor layer", Check.of("m0;").fair(OnionProbate.NONE), OnionProbate.NONE);
        Check.due("no layer, no envy", Check.of("m0;e0 1;e0 1;").fair(OnionProbate.NONE), 0);
        Check.due("told's envy without executors", alone.told(13), 0);
        Check.due("one executor, no envy", Check.of("m0;l0 9;e0 1;").fair(OnionProbate.NONE), 0);
    }

    private static void dry() {
        OnionProbate x = new OnionProbate();
        Check.due("dry(0, 0)", x.dry(0, 0), 1000000000);
        Check.due("dry(1, 0)", x.dry(1, 0), 0);
        Check.due("dry(60, 100)", x.dry(60, 100), 1000000000);
        Check.due("dry(3, 33)", x.dry(3, 33), 35937000);
        Check.due("dry(5, 33), cut", x.dry(5, 33), 3913539);
        Check.due("dry(6, 33), cut each year", x.dry(6, 33), 1291467);
        Check.due("dry(-1, 0)", x.dry(-1, 0), OnionProbate.OUTSIDE);
        Check.due("dry(61, 0)", x.dry(61, 0), OnionProbate.OUTSIDE);
        Check.due("dry(0, -1)", x.dry(0, -1), OnionProbate.OUTSIDE);
        Check.due("dry(0, 101)", x.dry(0, 101), OnionProbate.OUTSIDE);
    }

    private static void nothingChanges() {
        String text = "m0;l0 9;l2 2;l4 3;l4 1;l1 8;l3 6;e0 1;e3 1;t0,2,4;";
        OnionProbate x = Check.of(text);
        OnionProbate y = Check.of(text);
        x.worthIt(0, 1);
        x.parts(3, 1);
        x.byTurns(0);
        x.twoSides(0);
        x.nextKind(1);
        x.allows(0);
        x.run(0);
        x.fair(2);
        x.fair(OnionProbate.NONE);
        x.dry(3, 3);
        for (int what = 0; what < 20; what++) {
            Check.due("tried: told(" + what + ")", x.told(what), y.told(what));
        }
        for (int e = 0; e < 2; e++) {
            for (int what = 0; what < 5; what++) {
                Check.due("tried: executor", x.executor(e, what), y.executor(e, what));
            }
        }
        for (int k = 0; k < 6; k++) {
            Check.due("tried: layer", x.layer(k, 1), y.layer(k, 1));
        }
        Check.due("tried: seed", x.seed(0), 0);
    }
}
