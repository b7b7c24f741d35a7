/** Promises 9 to 15: what is peeled, logged, stopped, visited, years, years by draws, undone. */
public final class DeedsTest {
    public static void main(String[] args) {
        peeled();
        buttons();
        log();
        stopped();
        visited();
        years();
        yearsFull();
        drift();
        driftWithout();
        undone();
        undoneWholly();
        Check.end();
    }

    private static void state(String when, OnionProbate x, int e, int got, int tears, int peeled) {
        Check.due(when + ": got of " + e, x.executor(e, 2), got);
        Check.due(when + ": tears of " + e, x.executor(e, 3), tears);
        Check.due(when + ": peeled by " + e, x.executor(e, 4), peeled);
    }

    private static void peeled() {
        OnionProbate x = Check.of("m9;l0 3;l1 5;l2 4;l3 6;l4 7;e2 1;e0 1;");
        Check.due("peel(2)", x.peel(2), OnionProbate.UNKNOWN);
        Check.due("peel(-1)", x.peel(-1), OnionProbate.UNKNOWN);
        Check.due("said", x.peel(0), 3);
        state("said", x, 0, 3, 5, 1);
        Check.due("thought", x.peel(1), 2);
        state("thought", x, 1, 2, 5, 1);
        Check.due("liked", x.peel(0), 8);
        state("liked", x, 0, 11, 15, 2);
        Check.due("shoot", x.peel(1), 6);
        state("shoot", x, 1, 8, 11, 2);
        Check.due("the crown has nothing", x.told(7), 0);
        Check.due("button", x.peel(0), 0);
        state("button", x, 0, 11, 17, 3);
        state("ahead of the button", x, 1, 13, 11, 2);
        Check.due("the crown has the middle", x.told(7), 9);
        Check.due("no layer", x.peel(0), OnionProbate.NOT);
        Check.due("no layer, no executor", x.peel(5), OnionProbate.UNKNOWN);
        Check.due("no case", new OnionProbate().peel(0), OnionProbate.UNKNOWN);
        Check.due("what is refused can't be undone", x.told(19), 5);
    }

    private static void buttons() {
        OnionProbate x = Check.of("m0;l4 1;l4 1;l4 20;e0 1;e0 1;");
        x.peel(1);
        state("first button", x, 1, 0, 0, 1);
        x.peel(1);
        state("own button behind it", x, 1, 5, 0, 2);
        Check.due("one grows above the third", x.visit(), 1);
        x.peel(0);
        state("the one that grew", x, 0, 2, 2, 1);
        x.peel(1);
        state("who peeled that", x, 0, 7, 2, 1);
        state("who peeled the earlier ones", x, 1, 5, 0, 3);
        OnionProbate y = Check.of("m0;l0 4;l4 1;e0 1;e0 1;");
        y.peel(0);
        y.keep(0);
        y.goBack(0);
        y.peel(1);
        state("an image knows who peeled the one ahead", y, 0, 9, 4, 1);
        y.undo(1);
        y.peel(1);
        state("so it is undone", y, 0, 9, 4, 1);
    }

    private static void log() {
        OnionProbate x = Check.of("m0;l1 20;l3 1;e0 1;e0 1;");
        Check.due("logged(0, 0)", x.logged(0, 0), OnionProbate.NONE);
        Check.due("logged(0, 4)", x.logged(0, 4), OnionProbate.OUTSIDE);
        Check.due("logged(0, -1)", x.logged(0, -1), OnionProbate.OUTSIDE);
        for (int i = 0; i < 21; i++) {
            x.visit();
            x.year(1);
            x.peel(i % 2);
            Check.due("the log has", x.told(16), Math.min(20, i + 1));
        }
        for (int i = 0; i < 20; i++) {
            Check.due("year of " + i, x.logged(i, 0), 21 - i);
            Check.due("executor of " + i, x.logged(i, 1), i % 2);
            Check.due("kind of " + i, x.logged(i, 2), 2);
            Check.due("thick of " + i, x.logged(i, 3), 1);
        }
        Check.due("logged(20, 0)", x.logged(20, 0), OnionProbate.NONE);
        Check.due("logged(-1, 0)", x.logged(-1, 0), OnionProbate.NONE);
        Check.due("logged(-1, 4)", x.logged(-1, 4), OnionProbate.OUTSIDE);
        x.peel(0);
        x.peel(1);
        int[] shoot = {21, 1, 3, 20};
        int[] thought = {21, 0, 1, 20};
        for (int what = 0; what < 4; what++) {
            Check.due("shoot: " + what, x.logged(0, what), shoot[what]);
            Check.due("thought: " + what, x.logged(1, what), thought[what]);
        }
        x.undo(1);
        Check.due("the log is undone too", x.logged(0, 2), 1);
        Check.due("the oldest is back", x.logged(19, 0), 3);
    }

    private static void stopped() {
        Check.due("no case", new OnionProbate().stop(true), OnionProbate.NOT);
        OnionProbate x = Check.of("m0;l0 1;e0 1;");
        Check.due("let go on that never was", x.stop(false), 0);
        Check.due("stop", x.stop(true), 0);
        Check.due("peel", x.peel(0), OnionProbate.NOT);
        Check.due("unknown comes first", x.peel(1), OnionProbate.UNKNOWN);
        Check.due("visits go on", x.visit(), 2);
        Check.due("years go on", x.year(1), 1);
        Check.due("again", x.stop(true), 1);
        Check.due("each is a deed", x.told(19), 5);
        Check.due("let go on", x.stop(false), 1);
        Check.due("peel", x.peel(0), 2);
        Check.due("without a layer", x.stop(true), 0);
    }

    private static void visited() {
        Check.due("no case", new OnionProbate().visit(), OnionProbate.NOT);
        Check.due("no layer", Check.of("m0;e0 1;").visit(), OnionProbate.NOT);
        OnionProbate x = Check.of("m0;l1 18;l0 1;");
        Check.due("19", x.visit(), 19);
        Check.due("20", x.visit(), 20);
        Check.due("still two", x.told(1), 2);
        Check.due("one grows", x.visit(), 1);
        Check.due("three", x.told(1), 3);
        Check.due("it is liked", x.layer(0, 0), 2);
        Check.due("below it", x.layer(1, 0), 1);
        Check.due("is as it was", x.layer(1, 1), 20);
        Check.due("the last", x.layer(2, 1), 1);
        OnionProbate y = Check.of("m0;l4 20;" + "l0 3;".repeat(10));
        Check.due("twelfth", y.visit(), 1);
        for (int i = 2; i <= 20; i++) {
            Check.due("thicker", y.visit(), i);
        }
        Check.due("no thirteenth", y.visit(), 20);
        Check.due("twelve", y.told(1), 12);
        Check.due("the outmost", y.layer(0, 0), 2);
        Check.due("the last", y.layer(11, 1), 3);
        Check.due("it is a deed all the same", y.told(19), 21);
    }

    private static void years() {
        Check.due("no case", new OnionProbate().year(1), OnionProbate.NOT);
        Check.due("outside comes first", new OnionProbate().year(0), OnionProbate.OUTSIDE);
        OnionProbate x = Check.of("m0;l0 9;l3 17;l0 5;l3 20;e3 2;e0 9;");
        Check.due("year(0)", x.year(0), OnionProbate.OUTSIDE);
        Check.due("year(31)", x.year(31), OnionProbate.OUTSIDE);
        x.peel(0);
        Check.due("year(1)", x.year(1), 1);
        Check.due("shoot", x.layer(0, 1), 18);
        Check.due("no shoot", x.layer(1, 1), 5);
        Check.due("shoot of 20", x.layer(2, 1), 20);
        Check.due("tears are quick less", x.executor(0, 3), 10);
        Check.due("none are none", x.executor(1, 3), 0);
        Check.due("year(4)", x.year(4), 5);
        Check.due("shoot at most", x.layer(0, 1), 20);
        Check.due("tears", x.executor(0, 3), 2);
        Check.due("year(30)", x.year(30), 35);
        Check.due("tears at least", x.executor(0, 3), 0);
        Check.due("got stays", x.executor(0, 2), 9);
    }

    private static void yearsFull() {
        OnionProbate x = Check.of("m0;e0 1;");
        for (int i = 1; i <= 300; i++) {
            x.year(30);
        }
        Check.due("years", x.told(5), 9000);
        x.keep(0);
        Check.due("at 9000 one may go on", x.year(30), 9030);
        Check.due("full", x.year(1), OnionProbate.FULL);
        Check.due("full by draws", x.drift(1), OnionProbate.FULL);
        Check.due("outside comes first", x.year(31), OnionProbate.OUTSIDE);
        x.goBack(0);
        Check.due("at 9000 by draws", x.drift(1), 9001);
        Check.due("above 9000", x.drift(1), OnionProbate.FULL);
        Check.due("above 9000", x.year(1), OnionProbate.FULL);
    }

    /** What the DRAWS of THE SEED are, told anew here. */
    private static long draw(long[] seed, int n) {
        seed[0] = (seed[0] * 1103515245L + 12345L) % (1L << 31);
        return seed[0] / 65536 % n;
    }

    private static void drift() {
        OnionProbate x = Check.of("m5;l2 20;l0 3;l3 2;l1 9;e1 1;e2 3;e0 2;");
        Check.due("drift(0)", x.drift(0), OnionProbate.OUTSIDE);
        Check.due("drift(31)", x.drift(31), OnionProbate.OUTSIDE);
        OnionProbate y = Check.of("m5;l2 20;l0 3;l3 2;l1 9;e1 1;e2 3;e0 2;");
        long[] seed = {4711};
        x.seed(4711);
        for (int i = 1; i <= 40; i++) {
            Check.due("drift(1)", x.drift(1), i);
            switch ((int) draw(seed, 6)) {
                case 0:
                case 1:
                    y.peel((int) draw(seed, 3));
                    break;
                case 2:
                    y.visit();
                    break;
                case 3:
                    y.stop(y.told(6) == 0);
                    break;
                default:
                    break;
            }
            y.year(1);
            same(x, y);
        }
        Check.due("the seed", x.seed(1), (int) seed[0]);
        Check.due("no layer is left, or the run tells little", x.told(1), 0);
    }

    private static void same(OnionProbate x, OnionProbate y) {
        for (int what = 0; what < 17; what++) {
            Check.due("by hand: told(" + what + ")", x.told(what), y.told(what));
        }
        for (int e = 0; e < 3; e++) {
            for (int what = 2; what < 5; what++) {
                Check.due("by hand: executor", x.executor(e, what), y.executor(e, what));
            }
        }
    }

    private static void driftWithout() {
        Check.due("no case", new OnionProbate().drift(1), OnionProbate.NOT);
        OnionProbate x = Check.of("m5;l2 20;l3 1;");
        x.seed(123);
        Check.due("no executors", x.drift(30), 30);
        Check.due("no draw", x.seed(0), 123);
        Check.due("nothing is done", x.told(1), 2);
        Check.due("but years", x.layer(1, 1), 20);
        Check.due("each can be undone", x.undo(30), 0);
        Check.due("wholly", x.layer(1, 1), 1);
    }

    private static void undone() {
        OnionProbate x = Check.of("m5;l0 4;l3 2;e1 1;");
        Check.due("undo(0)", x.undo(0), OnionProbate.OUTSIDE);
        Check.due("undo(31)", x.undo(31), OnionProbate.OUTSIDE);
        Check.due("undo(1)", x.undo(1), OnionProbate.NOT);
        Check.due("no case", new OnionProbate().undo(1), OnionProbate.NOT);
        x.year(20);
        x.year(15);
        Check.due("30 are kept", x.told(19), 30);
        Check.due("undo(3)", x.undo(3), 32);
        Check.due("27 more", x.told(19), 27);
        Check.due("undo(28)", x.undo(28), OnionProbate.NOT);
        Check.due("a year", x.year(2), 34);
        Check.due("29", x.told(19), 29);
        Check.due("undo(29)", x.undo(29), 5);
        Check.due("no more", x.undo(1), OnionProbate.NOT);
        Check.due("the shoot", x.layer(1, 1), 7);
        x.seed(9);
        x.drift(10);
        int seed = x.seed(0);
        x.seed(seed);
        Check.due("undo by draws", x.undo(10), 5);
        Check.due("the seed stays", x.seed(0), seed);
    }

    private static void undoneWholly() {
        OnionProbate x = Check.of("m5;l0 4;l4 2;e1 1;e0 2;");
        x.peel(0);
        x.stop(true);
        x.stop(false);
        x.peel(1);
        Check.due("found", x.told(7), 5);
        Check.due("the button's", x.executor(0, 2), 9);
        Check.due("undo(1)", x.undo(1), 0);
        Check.due("not found", x.told(7), 0);
        Check.due("without the button", x.executor(0, 2), 4);
        Check.due("peeled", x.executor(1, 4), 0);
        Check.due("undo(1)", x.undo(1), 0);
        Check.due("stopped", x.told(6), 1);
        Check.due("undo(2)", x.undo(2), 0);
        Check.due("not stopped", x.told(6), 0);
        Check.due("layers", x.told(1), 2);
        Check.due("tears", x.executor(0, 3), 0);
        Check.due("log", x.told(16), 0);
        x.keep(0);
        x.visit();
        x.keep(1);
        Check.due("behind an image", x.undo(1), OnionProbate.NOT);
    }
}
