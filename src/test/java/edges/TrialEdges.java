/** The edges of promises 16 to 24, and of the words of section 3 for what is TRIED. */
final class TrialEdges {
    private static final int NONE = OnionProbate.NONE;
    private static final int UNKNOWN = OnionProbate.UNKNOWN;
    private static final int OUTSIDE = OnionProbate.OUTSIDE;
    private static final int MIN = Integer.MIN_VALUE;
    private static final int MAX = Integer.MAX_VALUE;

    private TrialEdges() {
    }

    static void check() {
        nothingChanges();
        worthIt();
        parts();
        byTurns();
        twoSides();
        nextKind();
        allows();
        run();
        fair();
        dry();
        Check.sentence = "";
    }

    private static void nothingChanges() {
        Doc.says(0, "TRIED from now, as nothing else is done; nothing changes by it.");
        // Layers now: thought 16, liked 19, button 3, shoot 7; executor 0 has got 9.
        Twins.rich().is("worthIt", x -> x.worthIt(1, 1), 1000).is("parts", x -> x.parts(2, 0), 45)
            .is("byTurns", x -> x.byTurns(0), 1000 + 8 + 38 - 7).is("twoSides", x -> x.twoSides(2), 2)
            .is("nextKind", x -> x.nextKind(0), 0).is("allows", x -> x.allows(1), 1 << 1)
            .is("run", x -> x.run(0), 1).is("fair", x -> x.fair(3), 0).is("fair", x -> x.fair(NONE), 30)
            .is("dry", x -> x.dry(1, 50), 500000000).unchanged();
        new Twins().is("parts", x -> x.parts(1, 0), NONE).is("byTurns", x -> x.byTurns(0), 1000)
            .is("twoSides", x -> x.twoSides(2), NONE).is("run", x -> x.run(1), NONE)
            .is("fair", x -> x.fair(NONE), NONE).unchanged();
    }

    private static void worth(String text, int many, int much) {
        OnionProbate x = Check.of(text);
        Check.due("worthIt(0, 0) of " + text, x.worthIt(0, 0), many);
        Check.due("worthIt(0, 1) of " + text, x.worthIt(0, 1), 1000 + much);
    }

    private static void worthIt() {
        Doc.says(16, "WORTH IT: what = 0 how many, 1 how much (and 1000). UNKNOWN, OUTSIDE.");
        Twins.rich().is("worthIt(2, 0)", x -> x.worthIt(2, 0), UNKNOWN)
            .is("worthIt(-1, 0)", x -> x.worthIt(-1, 0), UNKNOWN).is("worthIt(0, 2)", x -> x.worthIt(0, 2), OUTSIDE)
            .is("worthIt(0, -1)", x -> x.worthIt(0, -1), OUTSIDE)
            .is("UNKNOWN ahead of OUTSIDE", x -> x.worthIt(2, 2), UNKNOWN)
            .is("worthIt(MIN, 0)", x -> x.worthIt(MIN, 0), UNKNOWN)
            .is("worthIt(MAX, 0)", x -> x.worthIt(MAX, 0), UNKNOWN)
            .is("worthIt(0, MIN)", x -> x.worthIt(0, MIN), OUTSIDE)
            .is("worthIt(0, MAX)", x -> x.worthIt(0, MAX), OUTSIDE).unchanged();
        Check.due("no CASE", new OnionProbate().worthIt(0, 0), UNKNOWN);

        Doc.says(0, "from now on (STOPPED or not)");
        OnionProbate x = Check.of("m0;l0 1;l4 1;e0 1;");
        x.stop(true);
        Check.due("STOPPED", x.worthIt(0, 0), 2);
        Check.due("STOPPED", x.worthIt(0, 1), 1005);

        Doc.says(0, "so that all WORTH, and 5 for each button that he peels behind another LAYER, less all his new TEARS "
            + "is most");
        worth("m0;l4 1;e0 1;", 0, 0);
        worth("m0;l4 1;l4 1;e0 1;", 2, 5);
        worth("m0;l0 20;l4 20;e0 9;", 2, 5);
        worth("m0;l0 1;l4 1;e2 1;", 2, 1);
        worth("m0;l0 1;l4 1;e3 1;", 0, 0);
        worth("m0;l0 1;" + "l4 1;".repeat(11) + "e0 1;", 12, 55);
        worth("m0;l2 20;l1 19;l4 1;l4 1;l4 1;e0 1;", 5, 5);

        Doc.says(0, "how many (of like ones the fewest); how much, and 1000.");
        worth("m0;e0 1;", 0, 0);
        worth("m0;l0 5;l3 5;l2 5;e0 1;", 0, 0);
        worth("m0;l0 1;l4 1;l0 5;e0 1;", 2, 5);
        worth("m0;l1 1;l4 1;e2 1;", 0, 0);
        worth("m0;l1 1;l4 1;l1 9;l4 1;e0 1;", 2, 4);
        worth("m0;l1 1;l4 1;l1 9;l4 1;l4 1;e0 1;", 5, 9);
    }

    private static void parts() {
        Doc.says(17, "PARTS: what = 0 how much, 1 LAYERS in the first; NONE. OUTSIDE.");
        Twins.rich().is("parts(0, 0)", x -> x.parts(0, 0), OUTSIDE).is("parts(6, 0)", x -> x.parts(6, 0), OUTSIDE)
            .is("parts(1, -1)", x -> x.parts(1, -1), OUTSIDE).is("parts(1, 2)", x -> x.parts(1, 2), OUTSIDE)
            .is("OUTSIDE ahead of NONE", x -> x.parts(5, 2), OUTSIDE).is("parts(MIN, 0)", x -> x.parts(MIN, 0), OUTSIDE)
            .is("parts(MAX, 0)", x -> x.parts(MAX, 0), OUTSIDE).is("parts(1, MIN)", x -> x.parts(1, MIN), OUTSIDE)
            .is("parts(1, MAX)", x -> x.parts(1, MAX), OUTSIDE).unchanged();

        Doc.says(0, "into n parts (1 .. 5), one behind the other (none may be empty, if there are n LAYERS or more; else "
            + "NONE), so that the greatest STING of a part is least");
        Trials.part("m0;", 1, NONE, NONE);
        Trials.part("m0;", 5, NONE, NONE);
        Trials.part("m0;l2 20;", 1, 40, 1);
        Trials.part("m0;l2 20;", 2, NONE, NONE);
        Trials.part("m0;l0 1;l0 2;l0 3;l0 4;", 4, 4, 1);
        Trials.part("m0;l0 1;l0 2;l0 3;l0 4;", 5, NONE, NONE);
        Trials.part("m0;l0 1;l0 2;l0 3;l0 4;l0 5;", 5, 5, 1);
        Trials.part("m0;l4 9;l0 5;", 2, 5, 1);
        Trials.part("m0;l0 5;l4 9;", 2, 5, 1);
        Trials.part("m0;l4 1;l4 1;l4 1;", 3, 0, 1);
        Trials.part("m0;" + "l2 20;".repeat(12), 1, 480, 12);

        Doc.says(0, "the number of LAYERS in the first part (of like partings the fewest in the first, then in the second, "
            + "and so on)");
        Trials.part("m0;" + "l2 20;".repeat(12), 5, 120, 1);
        Trials.part("m0;" + "l2 20;".repeat(12), 2, 240, 6);
        Trials.part("m0;l0 1;l0 1;l0 9;", 2, 9, 2);
        Trials.part("m0;l0 1;l0 1;l0 9;l0 9;", 3, 9, 2);
        Trials.part("m0;l0 1;l0 1;l0 9;l0 2;", 3, 9, 2);
        Trials.part("m0;l0 1;l0 1;l0 9;l4 1;", 3, 9, 1);
        Trials.part("m0;l4 1;l4 1;l0 9;l4 1;", 3, 9, 1);
    }

    private static void byTurns() {
        Doc.says(18, "BY TURNS: what = 0 how much (and 1000), 1 how many first. OUTSIDE.");
        Twins.rich().is("byTurns(-1)", x -> x.byTurns(-1), OUTSIDE).is("byTurns(2)", x -> x.byTurns(2), OUTSIDE)
            .is("byTurns(MIN)", x -> x.byTurns(MIN), OUTSIDE).is("byTurns(MAX)", x -> x.byTurns(MAX), OUTSIDE).unchanged();

        Doc.says(0, "BY TURNS: two peel by turns, each one or two LAYERS (as many as there are at most)");
        Trials.turns("m0;l0 3;", 3, 1);
        Trials.turns("m0;l0 3;l0 4;", 7, 2);
        Trials.turns("m0;l0 3;l0 4;l0 5;", 2, 2);
        Trials.turns("m0;l0 1;l0 1;l0 20;l2 20;", 1 - 1 + 20 - 40 + 40, 1);

        Doc.says(0, "how many the first should peel first (of like ones 1; 0: there is no LAYER)");
        Trials.turns("m0;", 0, 0);
        Trials.turns("m0;l4 1;", 0, 1);
        Trials.turns("m0;l4 1;l4 1;", 0, 1);
        Trials.turns("m0;l0 3;l4 1;", 3, 1);
        Trials.turns("m0;l0 3;l1 1;", 3, 1);
        Trials.turns("m0;l0 3;l1 2;", 4, 2);
        Trials.turns("m0;l4 1;l4 1;l2 20;", -40, 1);
        Trials.turns("m0;" + "l2 20;".repeat(12), 0, 1);
        Check.due("no CASE", new OnionProbate().byTurns(1), 0);
        // What was tried with more LAYERS must not be left over.
        OnionProbate x = Check.of("m0;l0 3;l0 4;l0 5;l0 6;e0 1;");
        for (int layers = 4; layers > 0; layers--) {
            x.parts(layers, 0);
            x.byTurns(0);
            x.peel(0);
        }
        Check.due("none is left", x.byTurns(0), 1000);
        Check.due("none is left", x.byTurns(1), 0);
        OnionProbate y = Check.of("m0;l0 9;l0 4;l0 5;e0 1;");
        y.parts(1, 0);
        y.peel(0);
        Check.due("two are left", y.byTurns(0), 1009);
    }

    private static void twoSides() {
        Doc.says(19, "FROM TWO SIDES: what = 0 the first's WORTH, 1 the other's, 2 the last LAYER (NONE). OUTSIDE.");
        Twins.rich().is("twoSides(-1)", x -> x.twoSides(-1), OUTSIDE).is("twoSides(3)", x -> x.twoSides(3), OUTSIDE)
            .is("twoSides(MIN)", x -> x.twoSides(MIN), OUTSIDE).is("twoSides(MAX)", x -> x.twoSides(MAX), OUTSIDE)
            .unchanged();

        Doc.says(0, "each till there are none: WORTH of the first; of the other; the LAYER that is peeled last; NONE.");
        Trials.sides("m0;", 0, 0, NONE);
        Trials.sides("m0;l0 3;", 3, 0, 0);
        Trials.sides("m0;l0 3;l0 4;", 3, 4, 1);
        Trials.sides("m0;l0 3;l0 4;l0 5;", 7, 5, 1);
        Trials.sides("m0;" + "l2 20;".repeat(11), 240, 200, 5);
        Trials.sides("m0;" + "l2 20;".repeat(12), 240, 240, 6);
    }

    private static void nextKind() {
        Doc.says(20, "NEXT KIND (0 .. 4). OUTSIDE.");
        Twins.rich().is("nextKind(-1)", x -> x.nextKind(-1), OUTSIDE).is("nextKind(5)", x -> x.nextKind(5), OUTSIDE)
            .is("nextKind(MIN)", x -> x.nextKind(MIN), OUTSIDE).is("nextKind(MAX)", x -> x.nextKind(MAX), OUTSIDE)
            .unchanged();
        OnionProbate x = Check.of("m0;t0;t4;t4,0;");
        Check.due("nextKind(0)", x.nextKind(0), 1);
        Check.due("nextKind(4)", x.nextKind(4), 2);
        Check.due("no CASE", new OnionProbate().nextKind(0), 0);
        String seven = "m0;" + "l0 1;".repeat(7);
        Check.due("seven of eight", Check.of(seven + "t0,0,0,0,0,0,0,3;").nextKind(3), 1);
        Check.due("eight of eight", Check.of(seven + "l3 1;t0,0,0,0,0,0,0,3;").nextKind(3), 0);
        Check.due("twelve", Check.of(seven + "l0 1;".repeat(5) + "t0,0,0,0,0,0,0,0;").nextKind(0), 0);
    }

    private static void allows() {
        Doc.says(21, "ALLOWS (KIND 0 .. 4). OUTSIDE.");
        Twins.rich().is("allows(-1)", x -> x.allows(-1), OUTSIDE).is("allows(5)", x -> x.allows(5), OUTSIDE)
            .is("allows(MIN)", x -> x.allows(MIN), OUTSIDE).is("allows(MAX)", x -> x.allows(MAX), OUTSIDE).unchanged();

        Doc.says(0, "ALLOWS: LAYERS (a SET) of THE CASE on which a LAYER of a KIND could lie, if just such pairs are allowed "
            + "as are in TYPES.");
        Check.due("allows(0)", Check.of("m0;l0 1;l4 1;t0,0;t4,4;").allows(0), 1);
        Check.due("allows(4)", Check.of("m0;l0 1;l4 1;t0,0;t4,4;").allows(4), 2);
        Check.due("upper and lower", Check.of("m0;l0 1;l4 1;t0,4;").allows(0), 2);
        Check.due("not lower and upper", Check.of("m0;l0 1;l4 1;t0,4;").allows(4), 0);
        Check.due("the last pair of eight", Check.of("m0;l3 1;t0,0,0,0,0,0,1,3;").allows(1), 1);
        Check.due("TYPES of one have no pair", Check.of("m0;l0 1;t0;t1;").allows(0), 0);
        Check.due("no pair across TYPES", Check.of("m0;l1 1;t0;t1;").allows(0), 0);
        Check.due("all twelve", Check.of("m0;" + "l1 1;".repeat(12) + "t2,1;").allows(2), 4095);
        Check.due("no LAYER", Check.of("m0;t2,1;").allows(2), 0);
        Check.due("the sixth TYPE", Check.of("m0;l1 1;t0;t0;t0;t0;t0;t2,1;").allows(2), 1);
    }

    private static void run() {
        Doc.says(22, "RUN: what = 0 how long, 1 the first LAYER; NONE. OUTSIDE.");
        Twins.rich().is("run(-1)", x -> x.run(-1), OUTSIDE).is("run(2)", x -> x.run(2), OUTSIDE)
            .is("run(MIN)", x -> x.run(MIN), OUTSIDE).is("run(MAX)", x -> x.run(MAX), OUTSIDE).unchanged();

        Doc.says(0, "RUN: the longest row of LAYERS of one KIND, one behind the other; the first LAYER of it; NONE.");
        Trials.row("m0;", 0, NONE);
        Trials.row("m0;l4 1;", 1, 0);
        Trials.row("m0;l4 1;l3 1;", 1, 0);
        Trials.row("m0;l4 1;l3 1;l3 2;", 2, 1);
        Trials.row("m0;l3 1;l3 1;l4 2;", 2, 0);
        Trials.row("m0;l3 1;l4 1;l3 1;", 1, 0);
        Trials.row("m0;" + "l3 1;".repeat(12), 12, 0);
        Trials.row("m0;l0 1;" + "l3 1;".repeat(11), 11, 1);
    }

    private static void fair() {
        Doc.says(23, "FAIR: k = NONE: ENVY then, else who takes it; NONE: there is no EXECUTOR. UNKNOWN.");
        Twins.rich().is("fair(4)", x -> x.fair(4), UNKNOWN).is("fair(-2)", x -> x.fair(-2), UNKNOWN)
            .is("fair(MIN)", x -> x.fair(MIN), UNKNOWN).is("fair(MAX)", x -> x.fair(MAX), UNKNOWN).unchanged();
        OnionProbate none = Check.of("m0;l0 5;");
        Check.due("no EXECUTOR", none.fair(0), NONE);
        Check.due("no EXECUTOR", none.fair(NONE), NONE);
        Check.due("no such LAYER", none.fair(1), UNKNOWN);
        Check.due("no CASE", new OnionProbate().fair(NONE), NONE);
        Check.due("no CASE", new OnionProbate().fair(0), UNKNOWN);
        Check.due("no LAYER", Check.of("m0;e0 1;").fair(NONE), 0);
        Check.due("no LAYER", Check.of("m0;e0 1;").fair(0), UNKNOWN);

        Doc.says(0, "each by the EXECUTOR who has GOT least, by what he GOT and WORTH of what he took so (of like ones the "
            + "least)");
        OnionProbate x = Check.of("m0;l0 4;l0 4;l4 1;l0 1;l0 3;l0 1;e0 1;e0 1;e0 1;");
        int[] who = {0, 1, 2, 2, 2, 0};
        for (int k = 0; k < who.length; k++) {
            Check.due("fair(" + k + ")", x.fair(k), who[k]);
        }
        Check.due("ENVY then", x.fair(NONE), 1);
        OnionProbate y = Check.of("m0;l0 4;l0 4;l0 1;e0 1;e0 1;");
        y.peel(0);
        Check.due("he who GOT nothing", y.fair(0), 1);
        Check.due("like ones", y.fair(1), 0);
        Check.due("ENVY then", y.fair(NONE), 1);
        OnionProbate one = Check.of("m0;" + "l2 20;".repeat(12) + "e0 1;");
        Check.due("the twelfth", one.fair(11), 0);
        Check.due("a thirteenth", one.fair(12), UNKNOWN);
        Check.due("ENVY of one", one.fair(NONE), 0);
    }

    private static void dry() {
        Doc.says(24, "DRY YEAR. OUTSIDE.");
        Twins.rich().is("dry(-1, 50)", x -> x.dry(-1, 50), OUTSIDE).is("dry(61, 50)", x -> x.dry(61, 50), OUTSIDE)
            .is("dry(1, -1)", x -> x.dry(1, -1), OUTSIDE).is("dry(1, 101)", x -> x.dry(1, 101), OUTSIDE)
            .is("dry(0, 101)", x -> x.dry(0, 101), OUTSIDE).is("dry(MIN, 0)", x -> x.dry(MIN, 0), OUTSIDE)
            .is("dry(MAX, 0)", x -> x.dry(MAX, 0), OUTSIDE).is("dry(0, MIN)", x -> x.dry(0, MIN), OUTSIDE)
            .is("dry(0, MAX)", x -> x.dry(0, MAX), OUTSIDE).unchanged();

        Doc.says(0, "DRY YEAR: odds of n YEARS (0 .. 60) without rain, each by q of a hundred (0 .. 100): a BILLION times q "
            + "/ 100 each (cut).");
        OnionProbate x = new OnionProbate();
        Check.due("dry(0, 0)", x.dry(0, 0), 1000000000);
        Check.due("dry(0, 100)", x.dry(0, 100), 1000000000);
        Check.due("dry(60, 100)", x.dry(60, 100), 1000000000);
        Check.due("dry(1, 0)", x.dry(1, 0), 0);
        Check.due("dry(60, 0)", x.dry(60, 0), 0);
        Check.due("dry(1, 99)", x.dry(1, 99), 990000000);
        Check.due("dry(1, 1)", x.dry(1, 1), 10000000);
        Check.due("dry(4, 1)", x.dry(4, 1), 10);
        Check.due("dry(5, 1), cut", x.dry(5, 1), 0);
        Check.due("dry(5, 99)", x.dry(5, 99), 950990049);
        Check.due("dry(6, 99), cut", x.dry(6, 99), 941480148);
    }
}
