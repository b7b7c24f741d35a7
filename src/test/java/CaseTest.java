/** Promises 1 to 9: a new object, the text and its FAULTS, what is told of the case. */
public final class CaseTest {
    private static final String ALL = "m40;l0 9;l1 15;l2 20;l4 3;l3 5;l0 2;e3 2;e0 9;t0,1,2,4;t0,1,2,4,3,0,4,4;t0,2;";

    public static void main(String[] args) {
        newObject();
        feedBounds();
        faults();
        faultsAtLimits();
        faultLeavesAll();
        blanks();
        emptyText("");
        emptyText(" ");
        emptyText(" ".repeat(240));
        newCaseForgets();
        manyTexts();
        allFull();
        toldOfCase();
        toldWithout();
        cutAndLaw();
        layersAndExecutors();
        types();
        constants();
        Check.end();
    }

    private static void newObject() {
        OnionProbate x = new OnionProbate();
        int[] due = {0, 0, 0, 0, 0, 0, 0, 0, 0, -1, 0, -1, 0, 0, -1, 0, 0, 0, 0, 0};
        for (int what = 0; what < due.length; what++) {
            Check.due("new: told(" + what + ")", x.told(what), due[what]);
        }
        Check.due("new: fault()", x.fault(), OnionProbate.NONE);
        Check.due("new: layer", x.layer(0, 0), OnionProbate.UNKNOWN);
        Check.due("new: executor", x.executor(0, 0), OnionProbate.UNKNOWN);
        Check.due("new: type", x.type(0, 0), OnionProbate.UNKNOWN);
        Check.due("new: logged", x.logged(0, 0), OnionProbate.NONE);
        Check.due("new: seed", x.seed(5), 0);
    }

    private static void feedBounds() {
        OnionProbate x = new OnionProbate();
        Check.due("feed(-1)", x.feed(-1), OnionProbate.OUTSIDE);
        Check.due("feed(256)", x.feed(256), OnionProbate.OUTSIDE);
        Check.due("feed(0)", x.feed(0), 1);
        Check.due("feed(255)", x.feed(255), 2);
        for (int i = 3; i <= 240; i++) {
            Check.due("feed the " + i + "th", x.feed(32), i);
        }
        Check.due("feed the 241st", x.feed(32), OnionProbate.FULL);
        Check.due("feed the 241st, outside", x.feed(300), OnionProbate.OUTSIDE);
        Check.due("240 letters", x.told(4), 240);
        Check.due("letter 0 is no word", x.probate(), -11);
        Check.due("at", x.fault(), 0);
        Check.due("text is empty then", x.told(4), 0);
        Check.due("feed again", x.feed('m'), 1);
    }

    private static void faults() {
        Texts.fault("x", 1, 0);
        Texts.fault("M0;", 1, 0);
        Texts.fault("l0 1;m0;", 1, 0);
        Texts.fault(";", 1, 0);
        Texts.fault("5000;", 1, 0);
        Texts.fault("m", 1, 1);
        Texts.fault("m5", 1, 2);
        Texts.fault("m5   ", 1, 5);
        Texts.fault("m;", 1, 1);
        Texts.fault("m,", 1, 1);
        Texts.fault("m-1;", 1, 1);
        Texts.fault("m5 6;", 1, 3);
        Texts.fault("m5;;", 1, 3);
        Texts.fault("m5;5000;", 1, 3);
        Texts.fault("m5x;", 1, 2);
        Texts.fault("m100x", 2, 1);
        Texts.fault("m1234567890123;", 2, 1);
        Texts.fault("m  0000;", 2, 3);
        Texts.fault("m0;m1;", 3, 3);
        Texts.fault("m0;m", 3, 3);
        Texts.fault("m0;l", 1, 4);
        Texts.fault("m0;l0", 1, 5);
        Texts.fault("m0;l00;", 1, 6);
        Texts.fault("m0;l09;", 2, 4);
        Texts.fault("m0;l0,9;", 1, 5);
        Texts.fault("m0;l0 9 1;", 1, 8);
        Texts.fault("m0;l9 99x", 2, 4);
        Texts.fault("m0;l0 99x", 2, 6);
        Texts.fault("m0;l0 0021;", 2, 6);
        Texts.fault("m0;e0;", 1, 5);
        Texts.fault("m0;e0 1 1;", 1, 8);
        Texts.fault("m0;e10 1;", 2, 4);
        Texts.fault("m0;e0 0;", 2, 6);
        Texts.fault("m0;e0 10;", 2, 6);
        Texts.fault("m0;t;", 1, 4);
        Texts.fault("m0;t0 1;", 1, 6);
        Texts.fault("m0;t0,;", 1, 6);
        Texts.fault("m0;t0,5;", 2, 6);
        Texts.fault("m0;t,0;", 1, 4);
        Texts.fault("m0;t0,0,0,0,0,0,0,0,9999;", 1, 19);
        Texts.fault("m0;t0,0,0,0,0,0,0,0 , 0;", 1, 20);
        Texts.fault("m0;t0,0", 1, 7);
        Texts.fault("m0;\t", 1, 3);
        Texts.fault("m0;" + (char) 233, 1, 3);
        Texts.fault("  x", 1, 2);
        Texts.fault("  l0 1;", 1, 2);
    }

    private static void faultsAtLimits() {
        Texts.fine("m0;", 0);
        Texts.fine("m99;", 0);
        Texts.fine("m099;", 0);
        Texts.fine("m000;", 0);
        Texts.fault("m100;", 2, 1);
        Texts.fine("m0;l4 20;", 1);
        Texts.fine("m0;l004 020;", 1);
        Texts.fault("m0;l5 20;", 2, 4);
        Texts.fault("m0;l4 21;", 2, 6);
        Texts.fault("m0;l4 0;", 2, 6);
        Texts.fine("m0;e9 9;", 0);
        Texts.fine("m0;t0,1,2,3,4,0,1,2;", 0);
        String layers = "m0;" + "l0 1;".repeat(12);
        Texts.fine(layers, 12);
        Texts.fault(layers + "l", 3, 63);
        Texts.fault(layers + "l9 99;", 3, 63);
        String executors = "m0;" + "e0 1;".repeat(5);
        Texts.fine(executors, 0);
        Texts.fault(executors + "e0 1;", 3, 28);
        String types = "m0;" + "t0;".repeat(6);
        Texts.fine(types, 0);
        Texts.fault(types + "t0;", 3, 21);
        Texts.fault(types + "  t", 3, 23);
        Texts.fine("m0;t1;e2 2;l3 3;t1;l0 1;e0 1;", 2);
    }

    private static void faultLeavesAll() {
        OnionProbate x = Check.of(ALL);
        x.peel(0);
        x.guess(0, 0, true);
        x.write(0, 9);
        x.keep(1);
        x.year(1);
        Check.feedAll(x, "m0;l0 1");
        Check.due("fault", x.probate(), -11);
        Check.due("its place", x.fault(), 7);
        int[] due = {1, 5, 2, 3, 0, 1};
        for (int what = 0; what < due.length; what++) {
            Check.due("behind a fault: told(" + what + ")", x.told(what), due[what]);
        }
        Check.due("log stays", x.told(16), 1);
        Check.due("guessed stays", x.told(17), 1);
        Check.due("book stays", x.told(18), 1);
        Check.due("deeds stay", x.told(19), 1);
        Check.due("layer stays", x.layer(0, 1), 15);
        Check.due("type stays", x.type(1, 7), 4);
        Check.due("image stays", x.goBack(1), 1);
        Check.due("fault() stays till the next text", x.fault(), 7);
        Check.feedAll(x, "m1;");
        Check.due("a good text", x.probate(), 0);
        Check.due("no fault any more", x.fault(), OnionProbate.NONE);
    }

    private static void blanks() {
        OnionProbate x = Check.of("  m  7 ; l 2   3 ;e  1 2; t 0 , 1 ,2 ;  ");
        Check.due("layers", x.told(1), 1);
        Check.due("kind", x.layer(0, 0), 2);
        Check.due("thick", x.layer(0, 1), 3);
        Check.due("cared", x.executor(0, 0), 1);
        Check.due("quick", x.executor(0, 1), 2);
        Check.due("type", x.type(0, 2), 2);
        Check.due("type's end", x.type(0, 3), OnionProbate.NONE);
        Texts.fine("m0;l0" + " 1;", 1);
    }

    /** A text that tells nothing: without letters, or of blanks alone. */
    private static void emptyText(String text) {
        OnionProbate x = Check.of(ALL);
        x.keep(0);
        x.year(3);
        Check.feedAll(x, text);
        Check.due("empty text", x.probate(), 0);
        Check.due("no letters any more", x.told(4), 0);
        Check.due("no case", x.told(0), 0);
        Check.due("no layers", x.told(1), 0);
        Check.due("no executors", x.told(2), 0);
        Check.due("no types", x.told(3), 0);
        Check.due("no years", x.told(5), 0);
        Check.due("nothing for the Crown", x.told(7), 0);
        Check.due("nothing to undo", x.told(19), 0);
        Check.due("no fault", x.fault(), OnionProbate.NONE);
        Check.due("image is gone", x.goBack(0), OnionProbate.NOT);
        Check.due("no year", x.year(1), OnionProbate.NOT);
    }

    private static void newCaseForgets() {
        OnionProbate x = Check.of(ALL);
        x.seed(77);
        x.peel(0);
        x.peel(1);
        x.year(4);
        x.stop(true);
        x.guess(0, 0, true);
        x.write(1, 3);
        x.keep(0);
        x.keep(1);
        x.visit();
        Check.feedAll(x, "m3;l4 1;e1 1;");
        Check.due("a second text", x.probate(), 1);
        int[] due = {1, 1, 1, 0, 0, 0, 0, 0, 1, 0, 0, -1, 0, 0, 0, 0, 0, 0, 0, 0};
        for (int what = 0; what < due.length; what++) {
            Check.due("second text: told(" + what + ")", x.told(what), due[what]);
        }
        for (int what = 2; what < 5; what++) {
            Check.due("second text: executor", x.executor(0, what), 0);
        }
        Check.due("no second executor", x.executor(1, 0), OnionProbate.UNKNOWN);
        Check.due("image 0 is gone", x.goBack(0), OnionProbate.NOT);
        Check.due("image 1 is gone", x.goBack(1), OnionProbate.NOT);
        Check.due("log is empty", x.logged(0, 0), OnionProbate.NONE);
        x.peel(0);
        Check.due("a button ahead of which nobody peeled since the text", x.executor(0, 2), 0);
        Check.due("the seed stays", x.seed(0), 77);
        Check.due("no layer at once: the middle is found", Check.of("m8;e0 1;").told(7), 8);
    }

    private static void manyTexts() {
        OnionProbate x = new OnionProbate();
        for (int i = 0; i < 4; i++) {
            Check.feedAll(x, "m1;l0 1;l0 1;e0 1;e0 1;e0 1;t0;");
            Check.due("a text again", x.probate(), 2);
            Check.due("executors, anew", x.told(2), 3);
            Check.due("types, anew", x.told(3), 1);
            Check.feedAll(x, "m1;l0 1;e0 1;t0,1;t0,1;x");
            Check.due("a fault between", x.probate(), -11);
            Check.due("the case stays", x.told(1), 2);
        }
        Check.due("an empty one at last", x.probate(), 0);
        Check.due("no case", x.told(0), 0);
        Check.feedAll(x, "m1;l0 4;l4 1;e0 1;e0 1;");
        x.probate();
        x.peel(1);
        Check.feedAll(x, "m1;l4 1;e0 1;e0 1;");
        x.probate();
        x.peel(0);
        Check.due("who peeled ahead of the text has no button", x.executor(1, 2), 0);
    }

    /** As much of everything as a text can tell. */
    private static void allFull() {
        StringBuilder text = new StringBuilder("m0;");
        for (int k = 0; k < 12; k++) {
            text.append("l0 ").append(k + 1).append(';');
        }
        OnionProbate x = Check.of(text + "e0 1;e1 2;e2 3;e3 4;e4 5;t0;t1;t2;t3;t4;t0,1;");
        for (int k = 0; k < 12; k++) {
            Check.due("layer " + k, x.layer(k, 1), k + 1);
        }
        for (int e = 0; e < 5; e++) {
            Check.due("cared " + e, x.executor(e, 0), e);
            Check.due("quick " + e, x.executor(e, 1), e + 1);
        }
        Check.due("the sixth type", x.type(5, 1), 1);
        Check.due("all thick", x.told(8), 78);
        Check.due("cut", x.told(9), 8);
        Check.due("can be", x.told(10), 1);
        Check.due("parts of 12", x.parts(5, 0), 21);
        Check.due("the first of them", x.parts(5, 1), 4);
        Check.due("by turns of 12", x.byTurns(1), 1);
        Check.due("peel by the fifth", x.peel(4), 1);
        Check.due("envy of five", x.told(13), 1);
        Check.due("the last, one less", x.layer(10, 1), 12);
        Check.due("the fifth weeps", x.told(14), 4);
        x.peel(0);
        Check.due("two drops, one quick", x.told(15), 2);
        Check.due("fair by five", x.fair(0), 1);
        Check.due("the twelfth is gone", x.layer(10, 0), OnionProbate.UNKNOWN);
    }

    private static void toldOfCase() {
        OnionProbate x = Check.of(ALL);
        int law = 1 << 1 | 1 << 7 | 1 << 14 | 1 << 23 | 1 << 15;
        int[] due = {1, 6, 2, 3, 0, 0, 0, 0, 54, 2, 3, 4, law, 0, 0, 0, 0, 0, 0, 0};
        for (int what = 0; what < due.length; what++) {
            Check.due("told(" + what + ")", x.told(what), due[what]);
        }
        Check.due("told(-1)", x.told(-1), OnionProbate.OUTSIDE);
        Check.due("told(20)", x.told(20), OnionProbate.OUTSIDE);
        x.feed('m');
        Check.due("letters", x.told(4), 1);
        x.year(2);
        Check.due("years", x.told(5), 2);
        Check.due("all thick, the shoot too", x.told(8), 56);
        x.stop(true);
        Check.due("stopped", x.told(6), 1);
        x.stop(false);
        Check.due("not stopped", x.told(6), 0);
        x.peel(1);
        Check.due("envy", x.told(13), 9);
        Check.due("weeps", x.told(14), 1);
        x.peel(0);
        Check.due("envy", x.told(13), 2);
        Check.due("weeps", x.told(14), 0);
        Check.due("dry in: 18 by 2, 9 by 9", x.told(15), 9);
        x.year(1);
        Check.due("dry in a year less", x.told(15), 8);
        Check.due("log", x.told(16), 2);
        x.guess(1, 1, true);
        x.guess(2, 1, true);
        x.write(0, 7);
        Check.due("guessed", x.told(17), 2);
        Check.due("book", x.told(18), 1);
        Check.due("undo: 2 years, 2 stops, 2 peels, 1 year", x.told(19), 7);
        Check.due("first layers differ now", x.told(10), 0);
        Check.due("none is next", x.told(11), OnionProbate.NONE);
    }

    private static void toldWithout() {
        OnionProbate x = Check.of("m8;t0,1;t0;t3;");
        Check.due("crown", x.told(7), 8);
        Check.due("no cut", x.told(9), OnionProbate.NONE);
        Check.due("every type can be", x.told(10), 7);
        Check.due("not sure", x.told(11), OnionProbate.NONE);
        Check.due("no law", x.told(12), 0);
        Check.due("no envy", x.told(13), 0);
        Check.due("nobody weeps", x.told(14), OnionProbate.NONE);
        Check.due("dry now", x.told(15), 0);
        Check.due("sure if all begin so", Check.of("m8;t1,1;t1;").told(11), 1);
        Check.due("the short ones are not asked", Check.of("m8;l1 1;t1,4;t1;t1,4,2;t0,3;").told(11), 4);
        Check.due("not all one", Check.of("m8;l1 1;t1,4;t1,3;").told(11), OnionProbate.NONE);
        Check.due("dry in, rounded up", dryOf("m0;l0 5;e0 9;e0 2;", 1), 3);
        Check.due("dry in, the latest of all", dryOf("m0;l0 5;e0 9;e0 2;", 0), 1);
        OnionProbate y = Check.of("m0;l0 5;l0 5;e0 1;e0 1;e0 1;");
        y.peel(2);
        y.peel(1);
        Check.due("of like ones the least weeps", y.told(14), 1);
    }

    private static int dryOf(String text, int e) {
        OnionProbate x = Check.of(text);
        x.peel(e);
        return x.told(15);
    }

    private static void cutAndLaw() {
        Check.due("half of 4 is not more than half", Check.of("m0;l0 2;l0 2;").told(9), 1);
        Check.due("half of 5 is cut", Check.of("m0;l0 3;l0 2;").told(9), 0);
        Check.due("2 of 5 is not more than 2", Check.of("m0;l0 2;l0 3;").told(9), 1);
        Check.due("one layer of 1", Check.of("m0;l0 1;").told(9), 0);
        Check.due("law of 4 on 4", Check.of("m0;l4 2;l4 2;l4 1;").told(12), 1 << 24);
        Check.due("law of one layer", Check.of("m0;l4 2;").told(12), 0);
        Check.due("law: upper, lower", Check.of("m0;l3 2;l1 2;").told(12), 1 << 16);
    }

    private static void layersAndExecutors() {
        OnionProbate x = Check.of(ALL);
        int[][] due = {{0, 9, 9, 9}, {1, 15, 7, 15}, {2, 20, 40, 40}, {4, 3, 0, 0}, {3, 5, 5, 5}, {0, 2, 2, 2}};
        for (int k = 0; k < due.length; k++) {
            for (int what = 0; what < 4; what++) {
                Check.due("layer(" + k + ", " + what + ")", x.layer(k, what), due[k][what]);
            }
        }
        Check.due("layer(6, 9)", x.layer(6, 9), OnionProbate.UNKNOWN);
        Check.due("layer(-1, 0)", x.layer(-1, 0), OnionProbate.UNKNOWN);
        Check.due("layer(0, 4)", x.layer(0, 4), OnionProbate.OUTSIDE);
        Check.due("layer(0, -1)", x.layer(0, -1), OnionProbate.OUTSIDE);
        x.peel(1);
        Check.due("below are one less", x.layer(0, 1), 15);
        Check.due("and there is no sixth", x.layer(5, 1), OnionProbate.UNKNOWN);
        int[][] of = {{3, 2, 0, 0, 0}, {0, 9, 9, 9, 1}};
        for (int e = 0; e < of.length; e++) {
            for (int what = 0; what < 5; what++) {
                Check.due("executor(" + e + ", " + what + ")", x.executor(e, what), of[e][what]);
            }
        }
        Check.due("executor(2, 9)", x.executor(2, 9), OnionProbate.UNKNOWN);
        Check.due("executor(-1, 0)", x.executor(-1, 0), OnionProbate.UNKNOWN);
        Check.due("executor(1, 5)", x.executor(1, 5), OnionProbate.OUTSIDE);
        Check.due("executor(1, -1)", x.executor(1, -1), OnionProbate.OUTSIDE);
    }

    private static void types() {
        OnionProbate x = Check.of(ALL);
        int[][] due = {{0, 1, 2, 4, -1, -1, -1, -1}, {0, 1, 2, 4, 3, 0, 4, 4}, {0, 2, -1, -1, -1, -1, -1, -1}};
        for (int t = 0; t < due.length; t++) {
            for (int k = 0; k < 8; k++) {
                Check.due("type(" + t + ", " + k + ")", x.type(t, k), due[t][k]);
            }
        }
        Check.due("type(3, 9)", x.type(3, 9), OnionProbate.UNKNOWN);
        Check.due("type(-1, 0)", x.type(-1, 0), OnionProbate.UNKNOWN);
        Check.due("type(0, 8)", x.type(0, 8), OnionProbate.OUTSIDE);
        Check.due("type(0, -1)", x.type(0, -1), OnionProbate.OUTSIDE);
    }

    private static void constants() {
        Check.due("NONE", OnionProbate.NONE, -1);
        Check.due("UNKNOWN", OnionProbate.UNKNOWN, -1000000001);
        Check.due("OUTSIDE", OnionProbate.OUTSIDE, -1000000002);
        Check.due("NOT", OnionProbate.NOT, -1000000003);
        Check.due("FULL", OnionProbate.FULL, -1000000004);
    }
}
