import java.util.function.Consumer;

/** The edges of section 2, and of promises 10 to 15: peel, stop, visit, years, years by draws, undo. */
final class DeedEdges {
    private static final int NONE = OnionProbate.NONE;
    private static final int UNKNOWN = OnionProbate.UNKNOWN;
    private static final int OUTSIDE = OnionProbate.OUTSIDE;
    private static final int NOT = OnionProbate.NOT;
    private static final int FULL = OnionProbate.FULL;

    private DeedEdges() {
    }

    static void check() {
        peelRefused();
        outmostIsGone();
        buttons();
        middle();
        stopped();
        visited();
        year();
        yearRefused();
        yearsAbove9000();
        driftRefused();
        draws();
        drawsThatFind();
        undoRefused();
        thirtyAreKept();
        eachIsADeed();
        allIsAsAhead();
        Check.sentence = "";
    }

    private static void peelRefused() {
        Doc.says(10, "PEELED: its WORTH. UNKNOWN, NOT: no LAYER, STOPPED.");
        Twins.rich().is("peel(2)", x -> x.peel(2), UNKNOWN).is("peel(-1)", x -> x.peel(-1), UNKNOWN)
            .is("peel(MIN)", x -> x.peel(Integer.MIN_VALUE), UNKNOWN)
            .is("peel(MAX)", x -> x.peel(Integer.MAX_VALUE), UNKNOWN).unchanged();
        new Twins(Twins.RICH, x -> {
            x.peel(1);
            x.stop(true);
        }).is("STOPPED", x -> x.peel(1), NOT).is("UNKNOWN ahead of NOT", x -> x.peel(2), UNKNOWN).unchanged();
        new Twins("m7;l0 3;e0 1;", x -> x.peel(0)).is("no LAYER", x -> x.peel(0), NOT)
            .is("UNKNOWN ahead of NOT", x -> x.peel(1), UNKNOWN).unchanged();
        new Twins("m7;l0 3;", x -> { }).is("no EXECUTOR", x -> x.peel(0), UNKNOWN).unchanged();
        new Twins("m7;e0 1;", x -> { }).is("never a LAYER", x -> x.peel(0), NOT).unchanged();
        new Twins().is("no CASE", x -> x.peel(0), UNKNOWN).unchanged();
        OnionProbate x = Check.of("m7;l0 3;e0 1;e0 1;");
        Check.due("the last EXECUTOR peels the last LAYER", x.peel(1), 3);
        OnionProbate y = Check.of("m7;l2 20;l1 1;e0 1;");
        Check.due("the greatest WORTH", y.peel(0), 40);
        Check.due("the least", y.peel(0), 0);
    }

    private static void outmostIsGone() {
        Doc.says(0, "LAYER 0 is the outmost one.");
        OnionProbate x = Check.of("m0;" + "l0 1;".repeat(10) + "l1 7;l2 8;e0 1;");
        Check.due("layer(0, 1)", x.layer(0, 1), 1);
        Check.due("layer(11, 1)", x.layer(11, 1), 8);

        Doc.says(0, "PEELED by an EXECUTOR: the outmost LAYER is gone (those below are one less in number)");
        x.peel(0);
        Check.due("eleven", x.told(1), 11);
        Check.due("layer(10, 1)", x.layer(10, 1), 8);
        Check.due("layer(10, 0)", x.layer(10, 0), 2);
        Check.due("layer(9, 1)", x.layer(9, 1), 7);
        Check.due("layer(9, 0)", x.layer(9, 0), 1);
        Check.due("layer(11, 1)", x.layer(11, 1), UNKNOWN);
    }

    private static void got(String when, OnionProbate x, int e, int due) {
        Check.due(when + ": GOT of " + e, x.executor(e, 2), due);
    }

    private static void buttons() {
        Doc.says(0, "if it is a button, he who peeled the one ahead of it since the text (if there was one) gets 5 more.");
        OnionProbate x = Check.of("m0;l4 20;l4 1;l0 1;l4 1;e0 1;e0 1;");
        Check.due("a button's WORTH", x.peel(0), 0);
        got("there was none ahead", x, 0, 0);
        x.peel(1);
        got("a button ahead of it does", x, 0, 5);
        got("not he who peels it", x, 1, 0);
        x.peel(1);
        got("what is said is none", x, 0, 5);
        got("its WORTH alone", x, 1, 1);
        x.year(1);
        x.stop(true);
        x.stop(false);
        x.peel(0);
        got("years and stops between", x, 1, 6);
        Check.feedAll(x, "m0;l4 1;e0 1;e0 1;");
        x.probate();
        x.peel(0);
        got("ahead of the text", x, 1, 0);
        got("ahead of the text", x, 0, 0);
        OnionProbate y = Check.of("m0;l0 1;l4 1;e0 1;");
        y.peel(0);
        y.peel(0);
        got("he himself", y, 0, 6);
    }

    private static void middle() {
        Doc.says(0, "With no LAYER left THE MIDDLE is found, once for all: THE CROWN has M.");
        OnionProbate x = Check.of("m99;l0 1;l0 1;e0 1;");
        x.peel(0);
        Check.due("one left", x.told(7), 0);
        x.peel(0);
        Check.due("none left", x.told(7), 99);
        x.year(30);
        x.stop(true);
        Check.due("once for all", x.told(7), 99);
        Check.due("M = 0", Check.of("m0;").told(7), 0);
    }

    private static void stopped() {
        Doc.says(11, "STOPPED (is), or let go on: 1 it was, 0 not. NOT: no CASE.");
        new Twins().is("stop(true)", x -> x.stop(true), NOT).is("stop(false)", x -> x.stop(false), NOT).unchanged();
        OnionProbate x = Check.of("m0;");
        Check.due("not yet", x.stop(false), 0);
        Check.due("now", x.stop(true), 0);
        Check.due("it was", x.stop(true), 1);
        Check.due("still", x.told(6), 1);
        Check.due("let go on", x.stop(false), 1);
        Check.due("it was not", x.stop(false), 0);
        Check.due("an empty text is no CASE", x.probate(), 0);
        Check.due("stop(true)", x.stop(true), NOT);

        Doc.says(0, "STOPPED: nothing is PEELED till it is let go on.");
        OnionProbate y = Check.of("m0;l0 3;e0 1;");
        y.stop(true);
        Check.due("peel", y.peel(0), NOT);
        y.year(1);
        y.visit();
        Check.due("peel", y.peel(0), NOT);
        y.stop(false);
        Check.due("let go on", y.peel(0), 4);
    }

    private static void visited() {
        Doc.says(12, "VISITED: T of the outmost LAYER then. NOT: no LAYER.");
        new Twins().is("no CASE", OnionProbate::visit, NOT).unchanged();
        new Twins("m1;e0 1;t0;", x -> { }).is("never a LAYER", OnionProbate::visit, NOT).unchanged();
        new Twins("m1;l0 20;e0 1;", x -> x.peel(0)).is("none left", OnionProbate::visit, NOT).unchanged();
        Check.due("from 1", Check.of("m0;l4 1;").visit(), 2);

        Doc.says(0, "VISITED: the outmost LAYER is THICKER by one; if it was 20, one of KIND 2, T 1 grows above it, if "
            + "there are fewer than 12.");
        for (int kind = 0; kind < 5; kind++) {
            OnionProbate x = Check.of("m0;l" + kind + " 19;l0 20;");
            Check.due("19 and one", x.visit(), 20);
            Check.due("two LAYERS", x.told(1), 2);
            Check.due("its KIND", x.layer(0, 0), kind);
            Check.due("it was 20", x.visit(), 1);
            Check.due("three LAYERS", x.told(1), 3);
            Check.due("KIND 2", x.layer(0, 0), 2);
            Check.due("below it", x.layer(1, 0), kind);
            Check.due("it is 20", x.layer(1, 1), 20);
            Check.due("the innermost", x.layer(2, 1), 20);
            Check.due("what grew", x.visit(), 2);
        }
        OnionProbate eleven = Check.of("m0;l1 20;" + "l0 1;".repeat(9) + "l3 9;");
        Check.due("eleven", eleven.visit(), 1);
        Check.due("twelve now", eleven.told(1), 12);
        Check.due("the innermost", eleven.layer(11, 1), 9);
        Check.due("its KIND", eleven.layer(11, 0), 3);
        Check.due("a twelfth is THICKER all the same", eleven.visit(), 2);
        OnionProbate twelve = Check.of("m0;l1 20;" + "l0 1;".repeat(10) + "l3 9;");
        Check.due("twelve", twelve.visit(), 20);
        Check.due("still twelve", twelve.told(1), 12);
        Check.due("the outmost", twelve.layer(0, 0), 1);
        Check.due("the innermost", twelve.layer(11, 1), 9);
    }

    private static void year() {
        Doc.says(0, "A YEAR: each shoot is THICKER by one (20 at most)");
        OnionProbate x = Check.of("m0;l3 1;l3 19;l3 20;l0 19;l1 19;l2 19;l4 19;l3 18;");
        x.year(1);
        int[] one = {2, 20, 20, 19, 19, 19, 19, 19};
        for (int k = 0; k < one.length; k++) {
            Check.due("one YEAR: " + k, x.layer(k, 1), one[k]);
        }
        x.year(2);
        int[] three = {4, 20, 20, 19, 19, 19, 19, 20};
        for (int k = 0; k < three.length; k++) {
            Check.due("three YEARS: " + k, x.layer(k, 1), three[k]);
        }

        Doc.says(0, "TEARS of each EXECUTOR are QUICK less (0 at least); YEARS are one more.");
        OnionProbate y = Check.of("m0;l0 8;l0 9;l0 10;e0 9;e0 9;e0 9;e0 9;");
        y.peel(0);
        y.peel(1);
        y.peel(2);
        Check.due("YEARS", y.year(1), 1);
        int[] tears = {0, 0, 1, 0};
        for (int e = 0; e < tears.length; e++) {
            Check.due("TEARS of " + e, y.executor(e, 3), tears[e]);
        }
    }

    private static void yearRefused() {
        Doc.says(13, "n YEARS (1 .. 30): YEARS. OUTSIDE, NOT: no CASE; FULL: YEARS are above 9000.");
        Twins.rich().is("year(0)", x -> x.year(0), OUTSIDE).is("year(31)", x -> x.year(31), OUTSIDE)
            .is("year(-1)", x -> x.year(-1), OUTSIDE).is("year(MIN)", x -> x.year(Integer.MIN_VALUE), OUTSIDE)
            .is("year(MAX)", x -> x.year(Integer.MAX_VALUE), OUTSIDE).unchanged();
        new Twins().is("no CASE", x -> x.year(1), NOT).is("no CASE", x -> x.year(30), NOT)
            .is("OUTSIDE ahead of NOT", x -> x.year(31), OUTSIDE).unchanged();
        Check.due("year(1)", Check.of("m0;").year(1), 1);
        Check.due("year(30)", Check.of("m0;").year(30), 30);
    }

    private static void pass(OnionProbate x, int years) {
        for (int left = years; left > 0; left -= 30) {
            x.year(Math.min(30, left));
        }
    }

    private static void yearsAbove9000() {
        Doc.says(13, "FULL: YEARS are above 9000.");
        above9000("year", (x, n) -> x.year(n));
        Doc.says(14, "FULL: YEARS are above 9000.");
        above9000("drift", (x, n) -> x.drift(n));
    }

    private interface Passing {
        int by(OnionProbate x, int n);
    }

    private static void above9000(String name, Passing years) {
        String text = "m3;l3 1;e0 1;";
        OnionProbate x = Check.of(text);
        pass(x, 9000);
        Check.due(name + "(1) at 9000", years.by(x, 1), 9001);
        Check.due(name + "(1) at 9001", years.by(x, 1), FULL);
        Check.due("undo(1)", x.undo(1), 9000);
        Check.due(name + "(30) at 9000", years.by(x, 30), 9030);
        Check.due(name + "(1) at 9030", years.by(x, 1), FULL);
        Consumer<OnionProbate> ahead = y -> {
            pass(y, 9000);
            y.year(1);
        };
        new Twins(text, ahead).is(name + "(1) at 9001", y -> years.by(y, 1), FULL)
            .is(name + "(30) at 9001", y -> years.by(y, 30), FULL)
            .is("OUTSIDE ahead of FULL", y -> years.by(y, 31), OUTSIDE)
            .is("OUTSIDE ahead of FULL", y -> years.by(y, 0), OUTSIDE).unchanged();
    }

    private static void driftRefused() {
        Doc.says(14, "n YEARS BY DRAWS (1 .. 30): YEARS. OUTSIDE, NOT: no CASE; ");
        Twins.rich().is("drift(0)", x -> x.drift(0), OUTSIDE).is("drift(31)", x -> x.drift(31), OUTSIDE)
            .is("drift(-1)", x -> x.drift(-1), OUTSIDE).is("drift(MIN)", x -> x.drift(Integer.MIN_VALUE), OUTSIDE)
            .is("drift(MAX)", x -> x.drift(Integer.MAX_VALUE), OUTSIDE).unchanged();
        new Twins().is("no CASE", x -> x.drift(1), NOT).is("no CASE", x -> x.drift(30), NOT)
            .is("OUTSIDE ahead of NOT", x -> x.drift(31), OUTSIDE).unchanged();
        Check.due("drift(1)", Check.of("m0;e0 1;").drift(1), 1);
        Check.due("drift(30)", Check.of("m0;e0 1;").drift(30), 30);
    }

    /** THE SEED behind one DRAW, by the document's own sum. */
    private static int next(int seed) {
        return (int) ((seed * 1103515245L + 12345L) % 2147483648L);
    }

    /** The least SEED from which the first DRAW of 6 is this. */
    private static int seedFor(int draw) {
        int seed = 0;
        while (next(seed) / 65536 % 6 != draw) {
            seed++;
        }
        return seed;
    }

    private static void draws() {
        Doc.says(0, "THE SEED (0 at first: each DRAW it becomes it times 1103515245 and 12345, left over by 2 to the 31; "
            + "the DRAW of n is it / 65536, left over by n)");
        Check.due("0 at first", new OnionProbate().seed(1), 0);
        for (int seed : new int[] {0, 1, 65535, 65536, 1073741823, 1073741824, 2147483646, 2147483647}) {
            OnionProbate x = Check.of("m0;e0 1;");
            x.seed(seed);
            x.drift(1);
            boolean two = next(seed) / 65536 % 6 <= 1;
            Check.due("DRAWS from " + seed, x.seed(0), two ? next(next(seed)) : next(seed));
        }

        Doc.says(0, "n YEARS: ahead of each, if there are EXECUTORS, a DRAW of 6");
        OnionProbate x = Check.of("m0;l0 1;");
        x.seed(seedFor(2));
        Check.due("no EXECUTOR", x.drift(30), 30);
        Check.due("no DRAW", x.seed(0), seedFor(2));
        Check.due("not VISITED", x.layer(0, 1), 1);
        OnionProbate y = Check.of("m0;l0 1;e0 1;");
        y.seed(seedFor(4));
        y.drift(1);
        Check.due("one DRAW", y.seed(0), next(seedFor(4)));
        OnionProbate z = Check.of("m0;l3 4;e0 1;");
        z.seed(seedFor(0));
        z.drift(1);
        Check.due("ahead of the YEAR: T", z.logged(0, 3), 4);
        Check.due("ahead of the YEAR: YEAR", z.logged(0, 0), 0);
        Check.due("ahead of the YEAR: TEARS", z.executor(0, 3), 3);
    }

    private static OnionProbate drawn(String text, int draw, boolean stopped) {
        OnionProbate x = Check.of(text);
        x.stop(stopped);
        x.seed(seedFor(draw));
        Check.due("drift(1)", x.drift(1), 1);
        return x;
    }

    private static void drawsThatFind() {
        Doc.says(0, "on 0, 1 a DRAW of EXECUTORS peels, if he can;");
        String five = "m0;l0 4;l0 4;e0 1;e0 1;e0 1;e0 1;e0 1;";
        for (int draw = 0; draw <= 1; draw++) {
            int behind = next(next(seedFor(draw)));
            OnionProbate x = drawn(five, draw, false);
            Check.due("peels", x.told(1), 1);
            Check.due("who", x.logged(0, 1), behind / 65536 % 5);
            Check.due("two DRAWS", x.seed(0), behind);
            OnionProbate y = drawn(five, draw, true);
            Check.due("STOPPED", y.told(1), 2);
            Check.due("two DRAWS all the same", y.seed(0), behind);
            OnionProbate z = drawn("m0;e0 1;", draw, false);
            Check.due("no LAYER", z.told(16), 0);
            Check.due("two DRAWS all the same", z.seed(0), behind);
        }

        Doc.says(0, "on 2 it is VISITED, if there is a LAYER;");
        Check.due("one LAYER", drawn("m0;l0 4;e0 1;", 2, false).layer(0, 1), 5);
        Check.due("STOPPED, too", drawn("m0;l0 4;e0 1;", 2, true).layer(0, 1), 5);
        Check.due("it was 20", drawn("m0;l0 20;e0 1;", 2, false).told(1), 2);
        Check.due("no LAYER", drawn("m0;e0 1;", 2, false).told(1), 0);
        Check.due("one DRAW", drawn("m0;e0 1;", 2, false).seed(0), next(seedFor(2)));

        Doc.says(0, "on 3 it is STOPPED, if it is not, else let go on.");
        Check.due("it is not", drawn("m0;l0 4;e0 1;", 3, false).told(6), 1);
        Check.due("it is", drawn("m0;l0 4;e0 1;", 3, true).told(6), 0);
        Check.due("without a LAYER", drawn("m0;e0 1;", 3, false).told(6), 1);
        for (int draw = 4; draw <= 5; draw++) {
            OnionProbate x = drawn("m0;l0 4;e0 1;", draw, false);
            Check.due("nothing on " + draw, x.told(8) * 10 + x.told(6) + x.told(16), 40);
            Check.due("one DRAW", x.seed(0), next(seedFor(draw)));
        }
    }

    private static void undoRefused() {
        Doc.says(15, "The n latest (1 .. 30) are undone: YEARS. OUTSIDE, NOT: not so many.");
        Twins.rich().is("undo(0)", x -> x.undo(0), OUTSIDE).is("undo(31)", x -> x.undo(31), OUTSIDE)
            .is("undo(-1)", x -> x.undo(-1), OUTSIDE).is("undo(MIN)", x -> x.undo(Integer.MIN_VALUE), OUTSIDE)
            .is("undo(MAX)", x -> x.undo(Integer.MAX_VALUE), OUTSIDE)
            .is("one more than there are", x -> x.undo(4), NOT).is("undo(30)", x -> x.undo(30), NOT).unchanged();
        new Twins().is("no CASE", x -> x.undo(1), NOT).is("OUTSIDE ahead of NOT", x -> x.undo(31), OUTSIDE).unchanged();
        new Twins("m0;l0 1;e0 1;", x -> x.year(30)).is("undo(31) of 30", x -> x.undo(31), OUTSIDE).unchanged();
        OnionProbate y = Check.of(Twins.RICH);
        Twins.afternoon(y);
        Check.due("just so many", y.undo(3), 2);
        Check.due("none is left", y.undo(1), NOT);
    }

    private static void thirtyAreKept() {
        Doc.says(0, "UNDONE: the latest deeds (each YEAR, peel(), stop(), visit(), each YEAR BY DRAWS) since the text or "
            + "IMAGE (30 at most are kept)");
        OnionProbate x = Check.of("m0;l3 1;");
        Check.due("29", x.year(29), 29);
        Check.due("can be undone", x.told(19), 29);
        Check.due("undo(30)", x.undo(30), NOT);
        x.year(1);
        Check.due("30 can be undone", x.told(19), 30);
        Check.due("undo(30)", x.undo(30), 0);
        Check.due("none is left", x.told(19), 0);
        x.year(30);
        x.year(1);
        Check.due("of 31 but 30", x.told(19), 30);
        Check.due("undo(30)", x.undo(30), 1);
        Check.due("the first one stays", x.layer(0, 1), 2);
        Check.due("undo(1)", x.undo(1), NOT);
        x.year(30);
        x.year(30);
        x.year(15);
        Check.due("the ring, half around", x.undo(7), 69);
        Check.due("and again", x.undo(23), 46);
        Check.due("that was all", x.undo(1), NOT);
    }

    private static void eachIsADeed() {
        Doc.says(0, "(each YEAR, peel(), stop(), visit(), each YEAR BY DRAWS) since the text or IMAGE");
        OnionProbate x = Check.of("m0;l0 1;l0 20;" + "l0 1;".repeat(10) + "e0 1;");
        x.year(3);
        Check.due("each YEAR", x.told(19), 3);
        x.peel(0);
        Check.due("peel()", x.told(19), 4);
        x.stop(true);
        x.stop(true);
        Check.due("stop(), though it was", x.told(19), 6);
        x.visit();
        Check.due("visit(): it grows", x.told(19), 7);
        x.drift(4);
        Check.due("each YEAR BY DRAWS", x.told(19), 11);
        x.guess(0, 0, true);
        x.write(0, 1);
        x.tear();
        x.seed(5);
        x.feed('m');
        x.peel(7);
        x.undo(30);
        Check.due("nothing else", x.told(19), 11);
        x.keep(0);
        Check.due("since the IMAGE", x.told(19), 0);
        x.year(1);
        x.goBack(0);
        Check.due("since the IMAGE", x.undo(1), NOT);
        x.year(1);
        x.probate();
        Check.due("a text with a FAULT leaves them", x.told(19), 1);
        Check.due("so that it can be undone", x.undo(1), 7);
        OnionProbate full = Check.of("m0;l0 20;" + "l0 1;".repeat(11));
        full.visit();
        Check.due("visit() that changes nothing", full.undo(1), 0);
    }

    private static void allIsAsAhead() {
        Doc.says(0, "all of section 2 is as ahead of them; THE SEED stays.");
        String text = "m9;l0 3;l4 1;l3 5;e2 1;e1 2;";
        new Twins(text, x -> x.seed(11)).is("all deeds", x -> {
            x.peel(0);
            x.peel(1);
            x.stop(true);
            x.visit();
            x.year(2);
            return x.told(19);
        }, 6).is("undo(6)", x -> x.undo(6), 0).unchanged();
        new Twins("m9;l0 3;e0 1;", x -> { }).is("found", x -> x.peel(0) + x.told(7), 12)
            .is("undo(1)", x -> x.undo(1), 0).unchanged();
        OnionProbate x = Check.of(text);
        x.peel(0);
        x.undo(1);
        x.peel(1);
        x.peel(0);
        Check.due("who peeled ahead of the button", x.executor(1, 2), 8);
        Check.due("who did not, now", x.executor(0, 2), 0);
        OnionProbate y = Check.of(text);
        y.seed(11);
        y.drift(3);
        int seed = y.seed(0);
        y.seed(seed);
        y.undo(3);
        Check.due("THE SEED stays", y.seed(0), seed);
        Check.due("THE SEED has changed", seed == 11 ? NONE : 1, 1);
        OnionProbate z = Check.of("m0;l4 20;e0 1;");
        for (int i = 0; i < 21; i++) {
            z.visit();
            z.peel(0);
            z.year(1);
        }
        Check.due("the oldest of 20", z.logged(19, 0), 1);
        z.undo(2);
        Check.due("THE LOG has the one ahead again", z.logged(19, 0), 0);
    }
}
