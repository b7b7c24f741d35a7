/** The edges of promises 25 to 33: guesses, the book, the seed, images. */
final class KeptEdges {
    private static final int NONE = OnionProbate.NONE;
    private static final int UNKNOWN = OnionProbate.UNKNOWN;
    private static final int OUTSIDE = OnionProbate.OUTSIDE;
    private static final int NOT = OnionProbate.NOT;
    private static final int FULL = OnionProbate.FULL;
    private static final int MIN = Integer.MIN_VALUE;
    private static final int MAX = Integer.MAX_VALUE;

    private KeptEdges() {
    }

    static void check() {
        guessRefused();
        sixGuesses();
        couldBe();
        ask();
        writeRefused();
        twentyEntries();
        judge();
        tear();
        seed();
        keepRefused();
        goBackRefused();
        images();
        Check.sentence = "";
    }

    private static void guessRefused() {
        Doc.says(25, "GUESSED (k 0 .. 7; KIND 0 .. 4): how much. OUTSIDE, FULL (6).");
        Twins.rich().is("guess(-1, 0)", x -> x.guess(-1, 0, true), OUTSIDE)
            .is("guess(8, 0)", x -> x.guess(8, 0, true), OUTSIDE).is("guess(0, -1)", x -> x.guess(0, -1, false), OUTSIDE)
            .is("guess(0, 5)", x -> x.guess(0, 5, false), OUTSIDE).is("guess(MIN, 0)", x -> x.guess(MIN, 0, true), OUTSIDE)
            .is("guess(MAX, 0)", x -> x.guess(MAX, 0, true), OUTSIDE)
            .is("guess(0, MIN)", x -> x.guess(0, MIN, true), OUTSIDE)
            .is("guess(0, MAX)", x -> x.guess(0, MAX, true), OUTSIDE).unchanged();
        new Twins().is("no CASE", x -> x.guess(8, 5, true), OUTSIDE).unchanged();
        OnionProbate x = Check.of("m0;t0;");
        Check.due("guess(0, 0)", x.guess(0, 0, true), 1);
        Check.due("guess(7, 4)", x.guess(7, 4, false), 2);
    }

    private static void sixGuesses() {
        Doc.says(0, "GUESSED (6 at most): in an unknown man of one of the TYPES the KIND of a LAYER (0 .. 7) was k, or not.");
        new Twins("m0;t0;t1;", x -> {
            for (int i = 1; i <= 6; i++) {
                Check.due("guess " + i, x.guess(0, 0, true), i);
            }
        }).is("the seventh", x -> x.guess(0, 0, false), FULL).is("the same again", x -> x.guess(0, 0, true), FULL)
            .is("OUTSIDE ahead of FULL", x -> x.guess(8, 0, true), OUTSIDE)
            .is("OUTSIDE ahead of FULL", x -> x.guess(0, 5, true), OUTSIDE)
            .is("what is GUESSED", x -> x.told(17), 6).is("COULD BE", OnionProbate::couldBe, 1).unchanged();
    }

    private static int could(String text, int k, int kind, boolean is) {
        OnionProbate x = Check.of(text);
        Check.due("guess", x.guess(k, kind, is), 1);
        return x.couldBe();
    }

    private static void couldBe() {
        Doc.says(26, "COULD BE.");
        Doc.says(0, "COULD BE: TYPES (a SET) by which all that is GUESSED is so (a LAYER deeper than a TYPE has no KIND).");
        Check.due("no CASE", new OnionProbate().couldBe(), 0);
        Check.due("no TYPE", Check.of("m0;").couldBe(), 0);
        Check.due("nothing GUESSED", Check.of("m0;t0;t1;t2;t3;t4;t0;").couldBe(), 63);
        Check.due("its last LAYER is so", could("m0;t0,0;t0;", 1, 0, true), 1);
        Check.due("its last LAYER is not so", could("m0;t0,0;t0;", 1, 0, false), 2);
        Check.due("the eighth", could("m0;t0,0,0,0,0,0,0,0;t0,0,0,0,0,0,0;", 7, 0, true), 1);
        Check.due("no eighth: not so", could("m0;t0,0,0,0,0,0,0,0;t0,0,0,0,0,0,0;", 7, 0, false), 2);
        OnionProbate x = Check.of("m0;t0;t1;");
        x.guess(0, 0, true);
        x.guess(0, 0, false);
        Check.due("so and not so", x.couldBe(), 0);
    }

    private static int asked(String text) {
        return Check.of(text).ask();
    }

    private static void ask() {
        Doc.says(27, "ASK; NONE.");
        Doc.says(0, "ASK: the LAYER (0 .. 7) by the KIND (or none) of which these are told apart best: the greatest part that "
            + "is alike is least; of like ones the least; NONE: none parts them.");
        Check.due("no CASE", new OnionProbate().ask(), NONE);
        Check.due("no TYPE", asked("m0;"), NONE);
        Check.due("one TYPE", asked("m0;t0,1;"), NONE);
        Check.due("two alike", asked("m0;t0,1;t0,1;"), NONE);
        Check.due("LAYER 0", asked("m0;t0;t1;"), 0);
        Check.due("LAYER 7 by its KIND", asked("m0;t0,0,0,0,0,0,0,0;t0,0,0,0,0,0,0,1;"), 7);
        Check.due("LAYER 7 by none", asked("m0;t0,0,0,0,0,0,0,0;t0,0,0,0,0,0,0;"), 7);
        Check.due("of like ones the least", asked("m0;t0,0;t1,1;"), 0);
        Check.due("the later one is better", asked("m0;t0,0;t0,1;t1,2;"), 1);
        Check.due("none is a part", asked("m0;t0,1;t0,1;t0;t0;t1,2;"), 1);
        Check.due("of none there are fewer deeper", asked("m0;t0,0,0;t0,0,1;t0,0;t0;"), 2);
        OnionProbate those = Check.of("m0;t0,0;t0,1;t1,0;");
        those.guess(0, 0, true);
        Check.due("not by those that it can't be", those.ask(), 1);
        OnionProbate x = Check.of("m0;t0,0;t0,1;t1;");
        x.guess(0, 1, false);
        Check.due("of these alone", x.ask(), 1);
        x.guess(1, 1, true);
        Check.due("one is left", x.ask(), NONE);
        x.guess(1, 1, false);
        Check.due("none is left", x.ask(), NONE);
    }

    private static void writeRefused() {
        Doc.says(28, "An entry behind THE BOOK (0 .. 9999): how many. UNKNOWN, OUTSIDE, FULL (20).");
        Twins.rich().is("write(2, 0)", x -> x.write(2, 0), UNKNOWN).is("write(-1, 0)", x -> x.write(-1, 0), UNKNOWN)
            .is("write(0, -1)", x -> x.write(0, -1), OUTSIDE).is("write(0, 10000)", x -> x.write(0, 10000), OUTSIDE)
            .is("UNKNOWN ahead of OUTSIDE", x -> x.write(2, 10000), UNKNOWN)
            .is("write(MIN, 0)", x -> x.write(MIN, 0), UNKNOWN).is("write(MAX, 0)", x -> x.write(MAX, 0), UNKNOWN)
            .is("write(0, MIN)", x -> x.write(0, MIN), OUTSIDE).is("write(0, MAX)", x -> x.write(0, MAX), OUTSIDE)
            .unchanged();
        new Twins().is("no CASE", x -> x.write(0, 0), UNKNOWN).unchanged();
        OnionProbate x = Check.of("m0;e0 1;e0 1;");
        Check.due("write(1, 0)", x.write(1, 0), 1);
        Check.due("write(1, 9999)", x.write(1, 9999), 2);
    }

    private static void twentyEntries() {
        Doc.says(0, "THE BOOK (20 at most) tells what EXECUTORS GOT");
        new Twins("m0;e0 1;e0 1;", x -> {
            for (int i = 1; i <= 20; i++) {
                Check.due("entry " + i, x.write(i % 2, i == 20 ? 1 : 0), i);
            }
        }).is("the 21st", x -> x.write(0, 9), FULL).is("OUTSIDE ahead of FULL", x -> x.write(0, 10000), OUTSIDE)
            .is("UNKNOWN ahead of all", x -> x.write(2, 10000), UNKNOWN).is("entries", x -> x.told(18), 20)
            .is("the 20th is WRONG", OnionProbate::judge, 19).unchanged();
    }

    private static void judge() {
        Doc.says(29, "WRONG; NONE.");
        Doc.says(0, "WRONG: the first that is otherwise now; NONE.");
        Check.due("no CASE", new OnionProbate().judge(), NONE);
        OnionProbate x = Check.of("m0;l0 1;l0 1;e0 1;e0 1;");
        Check.due("no BOOK", x.judge(), NONE);
        x.write(0, 0);
        x.write(1, 0);
        Check.due("all is so", x.judge(), NONE);
        x.peel(1);
        Check.due("the second", x.judge(), 1);
        x.peel(0);
        Check.due("the first of two", x.judge(), 0);
        x.undo(2);
        Check.due("so again", x.judge(), NONE);
        x.write(0, 1);
        Check.due("one more than he GOT", x.judge(), 2);
    }

    private static void tear() {
        Doc.says(30, "Nothing GUESSED, no BOOK: how much both had.");
        Check.due("no CASE", new OnionProbate().tear(), 0);
        OnionProbate x = Check.of("m0;e0 1;t0;t1;");
        for (int i = 0; i < 20; i++) {
            x.guess(0, 0, true);
            x.write(0, 1);
        }
        Check.due("6 and 20", x.tear(), 26);
        Check.due("nothing then", x.tear(), 0);
        Check.due("nothing GUESSED", x.told(17), 0);
        Check.due("no BOOK", x.told(18), 0);
        Check.due("COULD BE", x.couldBe(), 3);
        Check.due("none is WRONG", x.judge(), NONE);
        Check.due("there is room again", x.guess(0, 1, true), 1);
        Check.due("there is room again", x.write(0, 0), 1);
        Check.due("COULD BE", x.couldBe(), 2);
        new Twins(Twins.RICH, y -> y.peel(0)).is("guess", y -> y.guess(0, 0, true), 1).is("write", y -> y.write(0, 1), 1)
            .is("tear()", OnionProbate::tear, 2).unchanged();
    }

    private static void seed() {
        Doc.says(31, "THE SEED becomes v (0 .. 2147483647): what it was. OUTSIDE.");
        Twins.rich().is("seed(-1)", x -> x.seed(-1), OUTSIDE).is("seed(MIN)", x -> x.seed(MIN), OUTSIDE).unchanged();
        OnionProbate x = new OnionProbate();
        Check.due("0 at first", x.seed(MAX), 0);
        Check.due("the greatest", x.seed(0), 2147483647);
        Check.due("the least", x.seed(1), 0);
    }

    private static void keepRefused() {
        Doc.says(32, "IMAGE i becomes what is so (nothing can be undone then): 1. UNKNOWN.");
        Twins.rich().is("keep(-1)", x -> x.keep(-1), UNKNOWN).is("keep(2)", x -> x.keep(2), UNKNOWN)
            .is("keep(MIN)", x -> x.keep(MIN), UNKNOWN).is("keep(MAX)", x -> x.keep(MAX), UNKNOWN).unchanged();
        for (int i = 0; i < 2; i++) {
            OnionProbate x = Check.of("m0;l0 1;");
            x.visit();
            Check.due("keep(" + i + ")", x.keep(i), 1);
            Check.due("nothing can be undone then", x.told(19), 0);
            Check.due("nothing can be undone then", x.undo(1), NOT);
            x.visit();
            Check.due("but what comes behind it", x.undo(1), 0);
            Check.due("T", x.layer(0, 1), 2);
            x.visit();
            Check.due("keep(" + i + ") anew", x.keep(i), 1);
            x.visit();
            x.goBack(i);
            Check.due("the latest", x.layer(0, 1), 3);
        }
    }

    private static void goBackRefused() {
        Doc.says(33, "What is so becomes IMAGE i (nothing can be undone then): 1. UNKNOWN, NOT: it was not kept.");
        Twins.rich().is("goBack(-1)", x -> x.goBack(-1), UNKNOWN).is("goBack(2)", x -> x.goBack(2), UNKNOWN)
            .is("goBack(MIN)", x -> x.goBack(MIN), UNKNOWN).is("goBack(MAX)", x -> x.goBack(MAX), UNKNOWN)
            .is("the other one", x -> x.goBack(1), NOT).unchanged();
        new Twins().is("no CASE", x -> x.goBack(0), NOT).is("no CASE", x -> x.goBack(1), NOT).unchanged();
        for (int i = 0; i < 2; i++) {
            OnionProbate x = Check.of("m0;l0 1;");
            x.keep(i);
            Check.due("the other one was not kept", x.goBack(1 - i), NOT);
            x.visit();
            Check.due("goBack(" + i + ")", x.goBack(i), 1);
            Check.due("nothing can be undone then", x.told(19), 0);
            Check.due("nothing can be undone then", x.undo(1), NOT);
            Check.due("T", x.layer(0, 1), 1);
            Check.due("again", x.goBack(i), 1);
            x.feed('x');
            x.probate();
            Check.due("a FAULT leaves it", x.goBack(i), 1);
            Check.feedAll(x, "m0;l0 1;");
            x.probate();
            Check.due("gone with a new CASE", x.goBack(i), NOT);
        }
    }

    private static void images() {
        Doc.says(0, "IMAGES 0, 1 keep all of section 2, THE SEED.");
        String text = "m9;l0 3;l4 1;l3 5;l0 20;e2 1;e1 2;t0;";
        new Twins(text, x -> {
            x.seed(5);
            x.peel(1);
            x.year(1);
            x.stop(true);
            x.keep(0);
        }).is("all deeds behind it", x -> {
            x.stop(false);
            x.peel(0);
            x.visit();
            x.drift(5);
            x.seed(6);
            return x.goBack(0);
        }, 1).unchanged();
        OnionProbate x = Check.of(text);
        x.keep(0);
        x.peel(1);
        x.keep(1);
        x.goBack(0);
        x.peel(0);
        x.goBack(1);
        x.peel(0);
        Check.due("who peeled ahead of the button", x.executor(1, 2), 8);
        x.guess(0, 0, true);
        x.write(0, 0);
        x.feed('m');
        x.goBack(0);
        Check.due("what is GUESSED stays", x.told(17), 1);
        Check.due("THE BOOK stays", x.told(18), 1);
        Check.due("THE TEXT stays", x.told(4), 1);
        Check.due("not found in IMAGE 0", x.told(7), 0);
    }
}
