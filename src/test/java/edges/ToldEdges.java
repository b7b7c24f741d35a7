/** The edges of promises 5 to 9: what is told of the case, and of the words of section 3 that are told there. */
final class ToldEdges {
    private static final int NONE = OnionProbate.NONE;
    private static final int UNKNOWN = OnionProbate.UNKNOWN;
    private static final int OUTSIDE = OnionProbate.OUTSIDE;

    private ToldEdges() {
    }

    static void check() {
        told();
        layer();
        executor();
        type();
        logged();
        canBe();
        sure();
        law();
        cut();
        envy();
        weeps();
        dryIn();
        Check.sentence = "";
    }

    private static void told() {
        Doc.says(5, "0 1 there is a CASE, 0 not, 1 LAYERS, 2 EXECUTORS, 3 TYPES, 4 letters of THE TEXT, 5 YEARS");
        Doc.says(5, "19 how many can be undone. OUTSIDE.");
        OnionProbate x = Check.of(Twins.RICH);
        Twins.afternoon(x);
        // Layers now: thought 16, liked 19, button 3, shoot 7.
        int law = 1 << 7 | 1 << 14 | 1 << 23;
        int[] due = {1, 4, 2, 3, 1, 2, 0, 0, 45, 1, 1 << 1 | 1 << 2, NONE, law, 9, 0, 4, 1, 1, 1, 3};
        for (int what = 0; what < due.length; what++) {
            Check.due("told(" + what + ")", x.told(what), due[what]);
        }
        Twins.rich().is("told(-1)", y -> y.told(-1), OUTSIDE).is("told(20)", y -> y.told(20), OUTSIDE)
            .is("told(MIN)", y -> y.told(Integer.MIN_VALUE), OUTSIDE)
            .is("told(MAX)", y -> y.told(Integer.MAX_VALUE), OUTSIDE).unchanged();
        Check.due("without a CASE", new OnionProbate().told(20), OUTSIDE);
    }

    private static void layer() {
        Doc.says(6, "Of a LAYER: what = 0 KIND, 1 T, 2 WORTH, 3 STING. UNKNOWN, OUTSIDE.");
        Twins.rich().is("layer(3, 3)", x -> x.layer(3, 3), 7).is("layer(3, 0)", x -> x.layer(3, 0), 3)
            .is("layer(4, 0)", x -> x.layer(4, 0), UNKNOWN).is("layer(-1, 0)", x -> x.layer(-1, 0), UNKNOWN)
            .is("layer(0, 4)", x -> x.layer(0, 4), OUTSIDE).is("layer(0, -1)", x -> x.layer(0, -1), OUTSIDE)
            .is("UNKNOWN ahead of OUTSIDE", x -> x.layer(4, 4), UNKNOWN)
            .is("layer(MIN, 0)", x -> x.layer(Integer.MIN_VALUE, 0), UNKNOWN)
            .is("layer(MAX, 0)", x -> x.layer(Integer.MAX_VALUE, 0), UNKNOWN)
            .is("layer(0, MIN)", x -> x.layer(0, Integer.MIN_VALUE), OUTSIDE)
            .is("layer(0, MAX)", x -> x.layer(0, Integer.MAX_VALUE), OUTSIDE).unchanged();
        Check.due("without a CASE", new OnionProbate().layer(0, 0), UNKNOWN);

        Doc.says(0, "WORTH of a LAYER by KIND: 0 (said) T; 1 (thought) T / 2; 2 (liked) twice T; 3 (a shoot) T; "
            + "4 (a button) 0. STING: T, but 2 twice T, 4 nothing.");
        int[] thick = {1, 2, 19, 20};
        int[][] worth = {{1, 2, 19, 20}, {0, 1, 9, 10}, {2, 4, 38, 40}, {1, 2, 19, 20}, {0, 0, 0, 0}};
        int[][] sting = {{1, 2, 19, 20}, {1, 2, 19, 20}, {2, 4, 38, 40}, {1, 2, 19, 20}, {0, 0, 0, 0}};
        for (int kind = 0; kind < 5; kind++) {
            for (int i = 0; i < thick.length; i++) {
                OnionProbate x = Check.of("m0;l" + kind + " " + thick[i] + ";");
                Check.due("WORTH of " + kind + " " + thick[i], x.layer(0, 2), worth[kind][i]);
                Check.due("STING of " + kind + " " + thick[i], x.layer(0, 3), sting[kind][i]);
            }
        }
    }

    private static void executor() {
        Doc.says(7, "Of an EXECUTOR: what = 0 CARED, 1 QUICK, 2 GOT, 3 TEARS, 4 how many LAYERS he peeled. UNKNOWN, "
            + "OUTSIDE.");
        Twins.rich().is("executor(1, 0)", x -> x.executor(1, 0), 0).is("executor(0, 4)", x -> x.executor(0, 4), 1)
            .is("executor(2, 0)", x -> x.executor(2, 0), UNKNOWN)
            .is("executor(-1, 0)", x -> x.executor(-1, 0), UNKNOWN)
            .is("executor(0, 5)", x -> x.executor(0, 5), OUTSIDE)
            .is("executor(0, -1)", x -> x.executor(0, -1), OUTSIDE)
            .is("UNKNOWN ahead of OUTSIDE", x -> x.executor(2, 5), UNKNOWN)
            .is("executor(MIN, 0)", x -> x.executor(Integer.MIN_VALUE, 0), UNKNOWN)
            .is("executor(MAX, 0)", x -> x.executor(Integer.MAX_VALUE, 0), UNKNOWN)
            .is("executor(0, MIN)", x -> x.executor(0, Integer.MIN_VALUE), OUTSIDE)
            .is("executor(0, MAX)", x -> x.executor(0, Integer.MAX_VALUE), OUTSIDE).unchanged();
        Check.due("without a CASE", new OnionProbate().executor(0, 0), UNKNOWN);
        Check.due("without executors", Check.of("m0;l0 1;").executor(0, 0), UNKNOWN);
    }

    private static void type() {
        Doc.says(8, "The KIND of a TYPE's LAYER (0 .. 7); NONE. UNKNOWN, OUTSIDE.");
        String text = "m0;t0,1,2,3,4,3,2;t4,3,2,1,0,1,2,3;t2;";
        new Twins(text, x -> { }).is("the 7th of seven", x -> x.type(0, 6), 2)
            .is("the 8th of seven", x -> x.type(0, 7), NONE).is("the 8th of eight", x -> x.type(1, 7), 3)
            .is("a ninth", x -> x.type(1, 8), OUTSIDE).is("of one", x -> x.type(2, 0), 2)
            .is("the second of one", x -> x.type(2, 1), NONE).is("type(0, -1)", x -> x.type(0, -1), OUTSIDE)
            .is("type(3, 0)", x -> x.type(3, 0), UNKNOWN).is("type(-1, 0)", x -> x.type(-1, 0), UNKNOWN)
            .is("UNKNOWN ahead of OUTSIDE", x -> x.type(3, 8), UNKNOWN)
            .is("type(MIN, 0)", x -> x.type(Integer.MIN_VALUE, 0), UNKNOWN)
            .is("type(MAX, 0)", x -> x.type(Integer.MAX_VALUE, 0), UNKNOWN)
            .is("type(0, MIN)", x -> x.type(0, Integer.MIN_VALUE), OUTSIDE)
            .is("type(0, MAX)", x -> x.type(0, Integer.MAX_VALUE), OUTSIDE).unchanged();
        Check.due("without a CASE", new OnionProbate().type(0, 0), UNKNOWN);
    }

    private static void logged() {
        Doc.says(9, "Of THE LOG, 0 the latest: what = 0 YEAR, 1 EXECUTOR, 2 KIND, 3 T; NONE. OUTSIDE (what).");
        Twins.rich().is("logged(0, 0)", x -> x.logged(0, 0), 0).is("logged(0, 3)", x -> x.logged(0, 3), 9)
            .is("logged(1, 0)", x -> x.logged(1, 0), NONE).is("logged(-1, 0)", x -> x.logged(-1, 0), NONE)
            .is("logged(20, 3)", x -> x.logged(20, 3), NONE)
            .is("logged(MIN, 0)", x -> x.logged(Integer.MIN_VALUE, 0), NONE)
            .is("logged(MAX, 0)", x -> x.logged(Integer.MAX_VALUE, 0), NONE)
            .is("logged(2 to the 30, 1)", x -> x.logged(1 << 30, 1), NONE)
            .is("logged(0, 4)", x -> x.logged(0, 4), OUTSIDE).is("logged(0, -1)", x -> x.logged(0, -1), OUTSIDE)
            .is("OUTSIDE ahead of NONE", x -> x.logged(1, 4), OUTSIDE)
            .is("logged(0, MIN)", x -> x.logged(0, Integer.MIN_VALUE), OUTSIDE)
            .is("logged(0, MAX)", x -> x.logged(0, Integer.MAX_VALUE), OUTSIDE).unchanged();
        Check.due("without a CASE", new OnionProbate().logged(0, 0), NONE);

        OnionProbate shoot = Check.of("m0;l0 1;l3 4;l4 2;e0 1;e0 1;");
        shoot.peel(0);
        shoot.year(7);
        shoot.peel(1);
        int[] entry = {7, 1, 3, 11};
        for (int what = 0; what < entry.length; what++) {
            Check.due("logged(0, " + what + ")", shoot.logged(0, what), entry[what]);
        }

        Doc.says(0, "THE LOG keeps the latest 20");
        OnionProbate x = Check.of("m0;l4 20;e0 1;e0 1;");
        for (int i = 1; i <= 21; i++) {
            x.visit();
            x.peel(i == 1 ? 1 : 0);
            Check.due("behind " + i + " peels", x.told(16), Math.min(i, 20));
            Check.due("the first of " + i, x.logged(i - 1, 1), i == 21 ? NONE : 1);
            Check.due("none ahead of it", x.logged(i, 0), NONE);
        }
        Check.due("the 20th latest is the second", x.logged(19, 1), 0);
    }

    private static int told(String text, int what) {
        return Check.of(text).told(what);
    }

    private static void canBe() {
        Doc.says(0, "CAN BE: TYPES (a SET) whose KINDS begin as those of all LAYERS now, from the outside, as far as "
            + "both go.");
        Check.due("no LAYER: each", told("m0;t0;t1;t2;t3;t4;t0,1;", 10), 63);
        Check.due("no TYPE", told("m0;l0 1;", 10), 0);
        Check.due("the TYPE ends first", told("m0;l0 1;l1 1;t0;t1;", 10), 1);
        Check.due("the LAYERS end first", told("m0;l0 1;t0,4,4;t1,4;", 10), 1);
        Check.due("the last of both differs", told("m0;l0 1;l1 1;t0,1;t0,2;t0,1,2;", 10), 5);
        String twelve = "m0;" + "l1 1;".repeat(12);
        Check.due("eight of twelve", told(twelve + "t1,1,1,1,1,1,1,1;t1,1,1,1,1,1,1,0;", 10), 1);
    }

    private static void sure() {
        Doc.says(0, "NEXT KIND: how many of those TYPES, that are longer than the LAYERS, have a KIND next.");
        Check.due("as long as the LAYERS", Check.of("m0;l0 1;t0;").nextKind(0), 0);
        Check.due("longer by one", Check.of("m0;l0 1;t0,0;").nextKind(0), 1);
        Check.due("all six", Check.of("m0;t4;t4;t4;t4;t4;t4;").nextKind(4), 6);
        Check.due("none of those", Check.of("m0;l1 1;t0,0;").nextKind(0), 0);

        Doc.says(0, "SURE: the KIND that all of these have next; NONE: none, or not all one.");
        Check.due("none", told("m0;l0 1;t0;", 11), NONE);
        Check.due("no TYPE", told("m0;l0 1;", 11), NONE);
        Check.due("all one", told("m0;l0 1;t0,0;t0,0,1;t0;t1,3;", 11), 0);
        Check.due("the greatest", told("m0;t4;t4,1;", 11), 4);
        Check.due("not all one", told("m0;l0 1;t0,0;t0,4;t0,0;", 11), NONE);
    }

    private static void law() {
        Doc.says(0, "LAW: pairs of KINDS (5 times the upper and the lower: a SET, 25 bits) that lie one on the other "
            + "in THE CASE now.");
        Check.due("no LAYER", told("m0;", 12), 0);
        Check.due("one LAYER", told("m0;l4 1;", 12), 0);
        Check.due("0 on 0", told("m0;l0 1;l0 1;", 12), 1);
        Check.due("4 on 4", told("m0;l4 1;l4 1;", 12), 1 << 24);
        Check.due("0 on 4", told("m0;l0 1;l4 1;", 12), 1 << 4);
        Check.due("4 on 0", told("m0;l4 1;l0 1;", 12), 1 << 20);
        OnionProbate x = Check.of("m0;l4 1;l0 1;l0 1;e0 1;");
        x.peel(0);
        Check.due("now", x.told(12), 1);
    }

    private static void cut() {
        Doc.says(0, "CUT: the first LAYER that lies deeper than half of ALL THICK (of those above it, and itself, T "
            + "together are more than half, cut); NONE.");
        Check.due("no LAYER", told("m0;", 9), NONE);
        Check.due("one, half of 1 is 0", told("m0;l0 1;", 9), 0);
        Check.due("just half", told("m0;l0 5;l0 5;", 9), 1);
        Check.due("one more than half", told("m0;l0 6;l0 4;", 9), 0);
        Check.due("half of 11, cut: 5", told("m0;l0 5;l0 6;", 9), 1);
        Check.due("6 are more than 5", told("m0;l0 6;l0 5;", 9), 0);
        Check.due("the last of twelve", told("m0;" + "l0 1;".repeat(11) + "l0 11;", 9), 11);
        Check.due("all thick, at most", told("m0;" + "l0 20;".repeat(12), 8), 240);
        OnionProbate x = Check.of("m0;" + "l0 5;".repeat(12) + "e0 1;");
        for (int i = 0; i < 12; i++) {
            Check.isSo("there is a LAYER still", x.told(9) != NONE);
            x.peel(0);
        }
        Check.due("none of twelve is left", x.told(9), NONE);
        Check.due("all thick", x.told(8), 0);
    }

    private static void envy() {
        Doc.says(0, "ENVY: the most GOT of an EXECUTOR less the least; 0 without.");
        Check.due("no CASE", new OnionProbate().told(13), 0);
        Check.due("no EXECUTOR", told("m0;l0 5;", 13), 0);
        OnionProbate x = Check.of("m0;l0 5;l0 5;e0 1;");
        x.peel(0);
        Check.due("one EXECUTOR", x.told(13), 0);
        OnionProbate y = Check.of("m0;l0 5;l0 5;e0 1;e0 1;");
        y.peel(1);
        Check.due("two", y.told(13), 5);
        y.peel(0);
        Check.due("like ones", y.told(13), 0);
        OnionProbate z = Check.of("m0;l0 5;l0 6;e0 1;e0 1;e0 1;e0 1;e0 1;");
        z.peel(4);
        Check.due("the fifth of five", z.told(13), 5);
        z.peel(0);
        Check.due("the first of five", z.told(13), 6);
    }

    private static void weeps() {
        Doc.says(0, "WEEPS: the EXECUTOR with most TEARS; of like ones the least; NONE.");
        Check.due("no CASE", new OnionProbate().told(14), NONE);
        Check.due("no EXECUTOR", told("m0;l0 5;", 14), NONE);
        Check.due("none weeps", told("m0;e0 1;e0 1;", 14), 0);
        OnionProbate x = Check.of("m0;l0 5;l0 5;l0 1;e0 1;e0 1;e0 1;");
        x.peel(2);
        Check.due("the last", x.told(14), 2);
        x.peel(1);
        Check.due("like ones", x.told(14), 1);
        x.peel(2);
        Check.due("one more", x.told(14), 2);
    }

    private static void dryIn() {
        Doc.says(0, "DRY IN: behind how many YEARS nobody has TEARS (0 .. 9999).");
        Check.due("no CASE", new OnionProbate().told(15), 0);
        Check.due("no EXECUTOR", told("m0;l0 5;", 15), 0);
        int[] thick = {8, 9, 10, 18, 19};
        int[] years = {1, 1, 2, 2, 3};
        for (int i = 0; i < thick.length; i++) {
            OnionProbate x = Check.of("m0;l0 " + thick[i] + ";e0 9;");
            x.peel(0);
            Check.due("tears of " + thick[i], x.told(15), years[i]);
            x.year(years[i] - 1 == 0 ? 1 : years[i] - 1);
            Check.due("and then", x.told(15), years[i] - 1 == 0 ? 0 : 1);
        }
        OnionProbate y = Check.of("m0;l0 9;l0 2;e0 9;e0 1;");
        y.peel(0);
        y.peel(1);
        Check.due("the one that is dry last", y.told(15), 2);
        OnionProbate z = Check.of("m0;l0 9;e0 1;e0 1;e0 1;e0 1;e0 2;");
        z.peel(4);
        Check.due("the fifth of five", z.told(15), 5);
    }
}
