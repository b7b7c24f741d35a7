/** Promises 25 to 33: guesses, the book, the seed, images. */
public final class GuessedTest {
    private static final String ALL = "m9;l0 4;l4 1;l2 3;e1 1;e0 2;t0,1,2;t0,1,3,3;t0,2;t1;";

    public static void main(String[] args) {
        guessed();
        asked();
        book();
        torn();
        seed();
        images();
        imagesWithoutCase();
        Check.end();
    }

    private static void guessed() {
        OnionProbate x = Check.of(ALL);
        Check.due("guess(-1, 0)", x.guess(-1, 0, true), OnionProbate.OUTSIDE);
        Check.due("guess(8, 0)", x.guess(8, 0, true), OnionProbate.OUTSIDE);
        Check.due("guess(0, -1)", x.guess(0, -1, true), OnionProbate.OUTSIDE);
        Check.due("guess(0, 5)", x.guess(0, 5, true), OnionProbate.OUTSIDE);
        Check.due("all could be", x.couldBe(), 15);
        Check.due("guess 1", x.guess(0, 0, true), 1);
        Check.due("three", x.couldBe(), 7);
        Check.due("guess 2", x.guess(3, 3, false), 2);
        Check.due("a layer deeper has no kind", x.couldBe(), 5);
        Check.due("guess 3", x.guess(2, 2, true), 3);
        Check.due("one", x.couldBe(), 1);
        Check.due("guess 4", x.guess(7, 4, true), 4);
        Check.due("none is so deep", x.couldBe(), 0);
        Check.due("guess 5", x.guess(7, 4, true), 5);
        Check.due("guess 6", x.guess(0, 0, true), 6);
        Check.due("guess 7", x.guess(0, 0, true), OnionProbate.FULL);
        Check.due("guess 7, outside", x.guess(8, 0, true), OnionProbate.OUTSIDE);
        Check.due("six", x.told(17), 6);
        OnionProbate y = new OnionProbate();
        Check.due("without a case", y.guess(0, 0, true), 1);
        Check.due("no type could be", y.couldBe(), 0);
        Check.due("none to ask", y.ask(), OnionProbate.NONE);
        Check.due("what is peeled does not matter", afterPeel(), 15);
    }

    private static int afterPeel() {
        OnionProbate x = Check.of(ALL);
        x.peel(0);
        return x.couldBe();
    }

    private static void asked() {
        OnionProbate x = Check.of(ALL);
        // By layer: 0,0,0,1 - 1,1,2,none - 2,3,none,none - none,3,none,none
        Check.due("parts of 2, the least layer", x.ask(), 1);
        x.guess(0, 0, true);
        Check.due("all three apart by layer 2", x.ask(), 2);
        x.guess(2, 3, false);
        Check.due("two: the least that parts them", x.ask(), 1);
        x.guess(1, 1, true);
        Check.due("one is not parted", x.ask(), OnionProbate.NONE);
        x.guess(1, 1, false);
        Check.due("nor is none", x.ask(), OnionProbate.NONE);
        Check.due("like ones are not parted", Check.of("m0;t0,1;t0,1;").ask(), OnionProbate.NONE);
        Check.due("the last layer", Check.of("m0;t0,1,1,1,1,1,1,1;t0,1,1,1,1,1,1;").ask(), 7);
        Check.due("the first layer", Check.of("m0;t0;t1;t2;t0;t4;t4;").ask(), 0);
        Check.due("kind 0 is not none", Check.of("m0;t1;t1,0;").ask(), 1);
        Check.due("no kind is as a kind", Check.of("m0;t0;t0,4;t0,4;t0,4;").ask(), 1);
    }

    private static void book() {
        OnionProbate x = Check.of(ALL);
        Check.due("no book", x.judge(), OnionProbate.NONE);
        Check.due("write(2, -1)", x.write(2, -1), OnionProbate.UNKNOWN);
        Check.due("write(-1, 0)", x.write(-1, 0), OnionProbate.UNKNOWN);
        Check.due("write(0, -1)", x.write(0, -1), OnionProbate.OUTSIDE);
        Check.due("write(0, 10000)", x.write(0, 10000), OnionProbate.OUTSIDE);
        Check.due("write 1", x.write(1, 0), 1);
        Check.due("write 2", x.write(0, 4), 2);
        Check.due("not so yet", x.judge(), 1);
        x.peel(0);
        Check.due("so now", x.judge(), OnionProbate.NONE);
        Check.due("write 3", x.write(1, 9999), 3);
        Check.due("the third", x.judge(), 2);
        x.peel(1);
        Check.due("the button changes the second", x.judge(), 1);
        x.peel(1);
        Check.due("the first", x.judge(), 0);
        x.undo(3);
        Check.due("the book is not undone", x.told(18), 3);
        Check.due("but what it is about", x.judge(), 1);
        for (int i = 4; i <= 20; i++) {
            Check.due("write " + i, x.write(0, 0), i);
        }
        Check.due("write 21", x.write(0, 0), OnionProbate.FULL);
        Check.due("write 21, outside", x.write(0, 10000), OnionProbate.OUTSIDE);
        Check.due("write 21, unknown", x.write(2, 0), OnionProbate.UNKNOWN);
        Check.due("without a case", new OnionProbate().write(0, 0), OnionProbate.UNKNOWN);
    }

    private static void torn() {
        OnionProbate x = Check.of(ALL);
        Check.due("nothing", x.tear(), 0);
        x.guess(0, 1, true);
        x.guess(1, 1, true);
        x.write(0, 1);
        Check.due("both", x.tear(), 3);
        Check.due("nothing guessed", x.told(17), 0);
        Check.due("no book", x.told(18), 0);
        Check.due("all could be", x.couldBe(), 15);
        Check.due("none is wrong", x.judge(), OnionProbate.NONE);
        Check.due("nothing", x.tear(), 0);
    }

    private static void seed() {
        OnionProbate x = new OnionProbate();
        Check.due("0 at first", x.seed(2147483647), 0);
        Check.due("seed(-1)", x.seed(-1), OnionProbate.OUTSIDE);
        Check.due("the greatest", x.seed(5), 2147483647);
        Check.due("the latest", x.seed(0), 5);
        OnionProbate y = Check.of("m0;e0 1;");
        y.seed(2147483647);
        y.drift(1);
        // 2147483647 * 1103515245 + 12345 leaves 1043980748, a draw of 5: one draw, and nothing is done.
        Check.due("one draw", y.seed(0), 1043980748);
        Check.due("of 5", 1043980748 / 65536 % 6, 5);
        y.drift(1);
        // From 0 comes 12345, a draw of 0, and behind it one of EXECUTORS, though there is no layer.
        Check.due("two draws", y.seed(0), 1406932606);
    }

    private static void images() {
        OnionProbate x = Check.of(ALL);
        Check.due("keep(2)", x.keep(2), OnionProbate.UNKNOWN);
        Check.due("keep(-1)", x.keep(-1), OnionProbate.UNKNOWN);
        Check.due("goBack(2)", x.goBack(2), OnionProbate.UNKNOWN);
        Check.due("goBack(-1)", x.goBack(-1), OnionProbate.UNKNOWN);
        Check.due("goBack(0)", x.goBack(0), OnionProbate.NOT);
        x.seed(11);
        x.peel(0);
        x.year(2);
        x.stop(true);
        Check.due("keep(0)", x.keep(0), 1);
        Check.due("nothing can be undone then", x.undo(1), OnionProbate.NOT);
        Check.due("none", x.told(19), 0);
        x.stop(false);
        x.seed(12);
        x.peel(1);
        x.peel(1);
        x.guess(0, 1, true);
        x.write(0, 9);
        Check.due("keep(1)", x.keep(1), 1);
        x.year(5);
        Check.due("goBack(0)", x.goBack(0), 1);
        Check.due("nothing can be undone then", x.undo(1), OnionProbate.NOT);
        int[] due = {1, 2, 2, 4, 0, 2, 1, 0};
        for (int what = 0; what < due.length; what++) {
            Check.due("image 0: told(" + what + ")", x.told(what), due[what]);
        }
        Check.due("log", x.told(16), 1);
        Check.due("got", x.executor(0, 2), 4);
        Check.due("tears", x.executor(0, 3), 3);
        Check.due("peeled", x.executor(1, 4), 0);
        Check.due("guessed stays", x.told(17), 1);
        Check.due("book stays", x.told(18), 1);
        Check.due("the seed", x.seed(99), 11);
        Check.due("goBack(1)", x.goBack(1), 1);
        Check.due("the crown", x.told(7), 9);
        Check.due("got, with the button", x.executor(0, 2), 9);
        Check.due("years", x.told(5), 2);
        Check.due("the seed", x.seed(0), 12);
        x.year(1);
        Check.due("goBack(0), again", x.goBack(0), 1);
        Check.due("it has not changed", x.told(1), 2);
        x.visit();
        x.visit();
        Check.due("goBack(0), a third time", x.goBack(0), 1);
        Check.due("nor by what came behind it", x.layer(0, 1), 1);
        x.keep(1);
        x.goBack(1);
        Check.due("kept anew", x.told(1), 2);
    }

    private static void imagesWithoutCase() {
        OnionProbate x = new OnionProbate();
        x.seed(3);
        Check.due("keep(0)", x.keep(0), 1);
        x.seed(4);
        Check.due("goBack(1)", x.goBack(1), OnionProbate.NOT);
        Check.due("goBack(0)", x.goBack(0), 1);
        Check.due("the seed", x.seed(0), 3);
        Check.due("no case", x.told(0), 0);
    }
}
