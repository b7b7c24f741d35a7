import java.util.Map;
import java.util.function.Consumer;

/** The edges of section 1, and of promises 1 to 4: the text, its bounds, its FAULTS. */
final class TextEdges {
    private static final int NONE = OnionProbate.NONE;

    private TextEdges() {
    }

    static void check() {
        newObject();
        letters();
        numbersInBounds();
        howManyClauses();
        typesOfOneToEight();
        figures();
        words();
        blanks();
        sideBySide();
        firstFault();
        leastFault();
        theEnd();
        cannotStandThere();
        emptyText();
        newCase();
        middleAtOnce();
        faultLeavesAll();
        faultOfTheLatest();
        Check.sentence = "";
    }

    private static void newObject() {
        Doc.says(1, "No CASE.");
        OnionProbate x = new OnionProbate();
        Check.due("told(0)", x.told(0), 0);
        Check.due("told(1)", x.told(1), 0);
        Check.due("told(2)", x.told(2), 0);
        Check.due("told(3)", x.told(3), 0);
        Check.due("fault()", x.fault(), NONE);
        Check.due("stop(true)", x.stop(true), OnionProbate.NOT);
        Check.due("year(1)", x.year(1), OnionProbate.NOT);
    }

    private static void letters() {
        Doc.says(0, "(240 letters at most), letter by letter");
        Texts.fine(" ".repeat(237) + "m0;", 0);
        Texts.fine("m0;" + " ".repeat(236) + " ", 0);
        Texts.fault(" ".repeat(237) + "m0,", 1, 239);
        Texts.fault(" ".repeat(238) + "m0", 1, 240);

        Doc.says(2, "A letter (0 .. 255) comes behind THE TEXT: how many it has. OUTSIDE, FULL (240).");
        Twins.rich().is("feed(-1)", x -> x.feed(-1), OnionProbate.OUTSIDE)
            .is("feed(256)", x -> x.feed(256), OnionProbate.OUTSIDE)
            .is("feed(MIN)", x -> x.feed(Integer.MIN_VALUE), OnionProbate.OUTSIDE)
            .is("feed(MAX)", x -> x.feed(Integer.MAX_VALUE), OnionProbate.OUTSIDE)
            .is("feed('m' + 256)", x -> x.feed('m' + 256), OnionProbate.OUTSIDE).unchanged();
        OnionProbate y = new OnionProbate();
        Check.due("feed(0)", y.feed(0), 1);
        Check.due("feed(255)", y.feed(255), 2);
        Check.due("told(4)", y.told(4), 2);
        Consumer<OnionProbate> all240 = x -> {
            for (int i = 1; i <= 239; i++) {
                x.feed(' ');
            }
            Check.due("the 240th", x.feed(255), 240);
        };
        new Twins("m0;l0 1;e0 1;t0;", all240).is("the 241st", x -> x.feed(255), OnionProbate.FULL)
            .is("the 241st, a blank", x -> x.feed(' '), OnionProbate.FULL)
            .is("OUTSIDE ahead of FULL", x -> x.feed(256), OnionProbate.OUTSIDE).unchanged();
        OnionProbate z = new OnionProbate();
        Check.feedAll(z, " ".repeat(237) + "m5;");
        Check.due("the 241st", z.feed('x'), OnionProbate.FULL);
        Check.due("and is not in the text", z.probate(), 0);
        Check.due("there is room again", z.feed('x'), 1);
    }

    private static void numbersInBounds() {
        Doc.says(0, "'m' M ';' (THE MIDDLE is worth M, 0 .. 99; first, once)");
        Check.due("m0", Check.of("m0;").told(7), 0);
        Check.due("m99", Check.of("m99;").told(7), 99);
        Texts.fault("m100;", 2, 1);
        Texts.fault("m999;", 2, 1);

        Doc.says(0, "KIND K, 0 .. 4");
        Check.due("l0", Check.of("m0;l0 1;").layer(0, 0), 0);
        Check.due("l4", Check.of("m0;l4 1;").layer(0, 0), 4);
        Texts.fault("m0;l5 1;", 2, 4);

        Doc.says(0, "THICK by T, 1 .. 20");
        Check.due("l0 1", Check.of("m0;l0 1;").layer(0, 1), 1);
        Check.due("l0 20", Check.of("m0;l0 20;").layer(0, 1), 20);
        Texts.fault("m0;l0 0;", 2, 6);
        Texts.fault("m0;l0 21;", 2, 6);

        Doc.says(0, "CARED by C, 0 .. 9");
        Check.due("e0", Check.of("m0;e0 1;").executor(0, 0), 0);
        Check.due("e9", Check.of("m0;e9 1;").executor(0, 0), 9);
        Texts.fault("m0;e10 1;", 2, 4);

        Doc.says(0, "QUICK by Q, 1 .. 9");
        Check.due("e0 1", Check.of("m0;e0 1;").executor(0, 1), 1);
        Check.due("e0 9", Check.of("m0;e0 9;").executor(0, 1), 9);
        Texts.fault("m0;e0 0;", 2, 6);
        Texts.fault("m0;e0 10;", 2, 6);
    }

    private static void howManyClauses() {
        Doc.says(0, "3 'm' again, a 13th 'l', a sixth 'e', a seventh 't' (at it).");
        Texts.fault("m0;m0;", 3, 3);
        Texts.fault("m0;l0 1;e0 1;t0; m", 3, 17);

        Doc.says(0, "(12 LAYERS at most, from the outside in");
        String twelve = "m0;" + "l0 1;".repeat(11) + "l3 7;";
        Texts.fine(twelve, 12);
        Check.due("the twelfth", Check.of(twelve).layer(11, 1), 7);
        Check.due("no thirteenth", Check.of(twelve).layer(12, 1), OnionProbate.UNKNOWN);
        Texts.fault(twelve + "l0 1;", 3, 63);
        Texts.fault(twelve + " l", 3, 64);
        Texts.fault(twelve + "l5 0;", 3, 63);

        Doc.says(0, "(5 EXECUTORS at most");
        String five = "m0;" + "e0 1;".repeat(4) + "e8 7;";
        Texts.fine(five, 0);
        Check.due("five", Check.of(five).told(2), 5);
        Check.due("the fifth", Check.of(five).executor(4, 0), 8);
        Texts.fault(five + "e0 1;", 3, 28);
        Texts.fault(five + "e", 3, 28);

        Doc.says(0, "(6 TYPES at most");
        String six = "m0;" + "t0;".repeat(5) + "t4;";
        Texts.fine(six, 0);
        Check.due("six", Check.of(six).told(3), 6);
        Check.due("the sixth", Check.of(six).type(5, 0), 4);
        Texts.fault(six + "t0;", 3, 21);
        Texts.fault(six + "t", 3, 21);
        Texts.fine(twelve + five.substring(3) + six.substring(3), 12);
    }

    private static void typesOfOneToEight() {
        Doc.says(0, "KINDS from the outside in, 1 to 8 numbers)");
        Texts.fault("m0;t;", 1, 4);
        Texts.fine("m0;t3;", 0);
        Check.due("one", Check.of("m0;t3;").type(0, 0), 3);
        Check.due("no second", Check.of("m0;t3;").type(0, 1), NONE);
        Check.due("eight", Check.of("m0;t0,1,2,3,4,0,1,2;").type(0, 7), 2);
        Texts.fault("m0;t5;", 2, 4);
        Texts.fault("m0;t0,1,2,3,4,0,1,5;", 2, 18);

        Doc.says(0, "a ninth K of 't': at its ','");
        Texts.fault("m0;t0,1,2,3,4,0,1,2,3;", 1, 19);
        Texts.fault("m0;t0,1,2,3,4,0,1,2,", 1, 19);
        Texts.fault("m0;t0,1,2,3,4,0,1,2 ,9999", 1, 20);
        Texts.fault("m0;t0,1,2,3,4,0,1,2 3;", 1, 20);
    }

    private static void figures() {
        Doc.says(0, "NUMBERS have one to three figures; a word is one letter");
        Check.due("one", Check.of("m7;").told(7), 7);
        Check.due("two", Check.of("m07;").told(7), 7);
        Check.due("three", Check.of("m007;").told(7), 7);
        Texts.fine("m000;l004 020;e009 009;t004,000;", 1);

        Doc.says(0, "2 a NUMBER of four figures or more, or out of its bounds (at its first).");
        Texts.fault("m0007;", 2, 1);
        Texts.fault("m0000", 2, 1);
        Texts.fault("m4294967296;", 2, 1);
        Texts.fault("m" + "0".repeat(239), 2, 1);
        Texts.fault("m0;l0004 1;", 2, 4);
        Texts.fault("m0;l0 0001;", 2, 6);
        Texts.fault("m0;e0000 1;", 2, 4);
        Texts.fault("m0;e0 0001;", 2, 6);
        Texts.fault("m0;t0,0001;", 2, 6);
        Texts.fault("m  100;", 2, 3);
    }

    private static void words() {
        Doc.says(0, "1 it cannot stand there (a letter that is no word, another word first than 'm'");
        Texts.fault("mm0;", 1, 1);
        Texts.fault("m0;ll0 1;", 1, 4);
        Texts.fault("m0;et0;", 1, 4);
        Texts.fault("k0;", 1, 0);
        Texts.fault("M0;", 1, 0);
        Texts.fault("m0;k", 1, 3);
        Texts.fault("m0;u", 1, 3);
        Texts.fault("m0;" + (char) 0, 1, 3);
        Texts.fault("m0;" + (char) 255, 1, 3);
        Texts.fault("l0 1;m0;", 1, 0);
        Texts.fault("e0 1;m0;", 1, 0);
        Texts.fault("t0;m0;", 1, 0);
        Texts.fault("  l0 1;m0;", 1, 2);
        Texts.fine("m0;t0;e0 1;l0 1;", 1);
    }

    private static void blanks() {
        Doc.says(0, "blanks (32) may stand anywhere but within NUMBERS");
        Texts.fine(" m 0 ; l 0 1 ; e 0 1 ; t 0 , 1 ; ", 1);
        Check.due("m 12", Check.of("m 12 ;").told(7), 12);
        Texts.fault("m1 2;", 1, 3);
        Texts.fault("m0;l1 1 0;", 1, 8);
        Texts.fault("m0;t1 0;", 1, 6);
        Texts.fault("m0;" + (char) 31, 1, 3);
        Texts.fault("m0;" + (char) 33, 1, 3);
        Texts.fault("m0;" + (char) 9, 1, 3);
        Texts.fault("m0;" + (char) 10, 1, 3);
        Texts.fault("m0;" + (char) 160, 1, 3);
    }

    private static void sideBySide() {
        Doc.says(0, "two NUMBERS side by side need one.");
        OnionProbate x = Check.of("m0;l1 2;e3 4;");
        Check.due("kind", x.layer(0, 0), 1);
        Check.due("thick", x.layer(0, 1), 2);
        Check.due("cared", x.executor(0, 0), 3);
        Check.due("quick", x.executor(0, 1), 4);
        Check.due("more of them do", Check.of("m0;l1    2;").layer(0, 1), 2);
        Texts.fault("m0;l12;", 2, 4);
        Texts.fault("m0;l01;", 1, 6);
        Texts.fault("m0;e09;", 1, 6);
    }

    private static void firstFault() {
        Doc.says(0, "FAULTS, at the first letter that has one");
        // Each has a second one further on, of a lesser number: the place comes first.
        Texts.fault("m100 x", 2, 1);
        Texts.fault("m0;m0;x", 3, 3);
        Texts.fault("m0;l9 99;", 2, 4);
        Texts.fault("m0;l0 21x", 2, 6);
        Texts.fault("m0;t0,7,0,0,0,0,0,0,0;", 2, 6);
        Texts.fault("m0;" + "l0 1;".repeat(12) + "lx", 3, 63);
        Texts.fault("m;m;", 1, 1);
    }

    private static void leastFault() {
        Doc.says(0, ", of these the least: 1");
        // At one letter: a NUMBER that cannot stand there and has four figures; a word that cannot, and is too many.
        Texts.fault("1000", 1, 0);
        Texts.fault("m0;1000;", 1, 3);
        Texts.fault("m0 1000;", 1, 3);
        Texts.fault("m0;l0 1 1000;", 1, 8);
        Texts.fault("m0;t0 1000;", 1, 6);
        Texts.fault("m0 m0;", 1, 3);
        Texts.fault("m0;" + "l0 1;".repeat(11) + "l0 1l0 1;", 1, 62);
        Texts.fault("m0;" + "t0;".repeat(5) + "t0t0;", 1, 20);
    }

    private static void theEnd() {
        Doc.says(0, "(the end at the text's length)");
        Texts.fault("m", 1, 1);
        Texts.fault("m0", 1, 2);
        Texts.fault("m0 ", 1, 3);
        Texts.fault("m0;l", 1, 4);
        Texts.fault("m0;l0", 1, 5);
        Texts.fault("m0;l0 ", 1, 6);
        Texts.fault("m0;l0 1", 1, 7);
        Texts.fault("m0;e", 1, 4);
        Texts.fault("m0;e0 1", 1, 7);
        Texts.fault("m0;t", 1, 4);
        Texts.fault("m0;t0", 1, 5);
        Texts.fault("m0;t0,", 1, 6);
        Texts.fault("m0;t0,0,0,0,0,0,0,0", 1, 19);
    }

    private static void cannotStandThere() {
        Doc.says(0, "1 it cannot stand there");
        Texts.fault(";", 1, 0);
        Texts.fault(",", 1, 0);
        Texts.fault("m;", 1, 1);
        Texts.fault("m,", 1, 1);
        Texts.fault("m0,", 1, 2);
        Texts.fault("m0;;", 1, 3);
        Texts.fault("m0;,", 1, 3);
        Texts.fault("m0;l;", 1, 4);
        Texts.fault("m0;l0;", 1, 5);
        Texts.fault("m0;l0,1;", 1, 5);
        Texts.fault("m0;l0 1,", 1, 7);
        Texts.fault("m0;e0;", 1, 5);
        Texts.fault("m0;e0,1;", 1, 5);
        Texts.fault("m0;t,", 1, 4);
        Texts.fault("m0;t0,,", 1, 6);
        Texts.fault("m0;t0,;", 1, 6);
        Texts.fault("m0;l-1 1;", 1, 4);
        Texts.fault("m0;l+1 1;", 1, 4);
        // The signs beside '0' and '9'.
        Texts.fault("m/;", 1, 1);
        Texts.fault("m:;", 1, 1);
        Texts.fault("m1/;", 1, 2);
        Texts.fault("m1:;", 1, 2);
    }

    private static void emptyText() {
        Doc.says(0, "An empty text: no CASE.");
        for (String text : new String[] {"", " ", " ".repeat(240)}) {
            OnionProbate x = new OnionProbate();
            Check.feedAll(x, text);
            Check.due("probate()", x.probate(), 0);
            Check.due("no fault", x.fault(), NONE);
            Check.due("no case", x.told(0), 0);
            Check.due("no crown's", x.told(7), 0);
            OnionProbate y = Check.of("m7;l0 1;e0 1;t0;");
            Check.feedAll(y, text);
            Check.due("probate() behind a case", y.probate(), 0);
            same(y, new OnionProbate());
        }
        Check.due("the shortest case", Check.of("m0;").told(0), 1);
    }

    /** Both tell the same in all. */
    private static void same(OnionProbate x, OnionProbate y) {
        Map<String, Integer> due = Twins.whole(y);
        for (Map.Entry<String, Integer> e : Twins.whole(x).entrySet()) {
            Check.due(e.getKey(), e.getValue(), due.getOrDefault(e.getKey(), Integer.MIN_VALUE));
        }
    }

    private static void newCase() {
        Doc.says(3, "THE TEXT (it is empty then, with a FAULT, too) becomes THE CASE");
        OnionProbate x = Check.of(Twins.RICH);
        Check.due("it is empty then", x.told(4), 0);
        Check.due("layers", x.told(1), 5);
        Check.due("the next text begins anew", x.feed('m'), 1);
        Check.due("a fault", x.probate(), -11);
        Check.due("it is empty then, too", x.told(4), 0);
        Check.due("and an empty one is no fault", x.probate(), 0);
        // Of an earlier text, and of one with a FAULT, nothing is left in the next.
        for (String text : new String[] {"m1;l0 1;l1 1;e0 1;t0;t1;x", "m3;l3 2;l3 3;e1 1;e2 2;t3,3;"}) {
            Check.feedAll(x, text);
            x.probate();
        }
        same(x, Check.of("m3;l3 2;l3 3;e1 1;e2 2;t3,3;"));

        Doc.says(3, "(YEAR 0, nothing GOT, no TEARS, not STOPPED, THE LOG is empty");
        Doc.says(3, "nothing GUESSED, no BOOK; IMAGES, what could be undone are gone; THE SEED stays)");
        String next = "m3;l4 2;l3 20;e9 1;e1 1;t4,3;";
        OnionProbate y = Check.of(Twins.RICH);
        y.seed(2147483647);
        y.peel(1);
        y.peel(0);
        y.year(3);
        y.keep(0);
        y.keep(1);
        y.peel(1);
        y.visit();
        y.stop(true);
        y.guess(7, 4, false);
        y.write(1, 9999);
        Check.feedAll(y, next);
        Check.due("a second text", y.probate(), 2);
        OnionProbate z = Check.of(next);
        z.seed(2147483647);
        same(y, z);
    }

    private static void middleAtOnce() {
        Doc.says(3, "THE MIDDLE not found, but if there is no LAYER;");
        Check.due("one layer", Check.of("m99;l4 1;e0 1;").told(7), 0);
        Check.due("no layer", Check.of("m99;e0 1;").told(7), 99);
    }

    private static void faultLeavesAll() {
        Doc.says(3, ": how many LAYERS; -10 less the number of its FAULT (all is as it was).");
        String[] texts = {"m0;l0 1", "m0;l0 21;", "m0;l0 1;m", " x"};
        int[] due = {-11, -12, -13, -11};
        int[] at = {7, 6, 8, 1};
        for (int i = 0; i < texts.length; i++) {
            String text = texts[i];
            int place = at[i];
            Consumer<OnionProbate> ahead = x -> {
                Twins.afternoon(x);
                x.probate();
            };
            new Twins(Twins.RICH, ahead).is("feed it", x -> {
                Check.feedAll(x, text);
                return 0;
            }, 0).is("probate() of " + text, OnionProbate::probate, due[i])
                .is("fault()", OnionProbate::fault, place).unchangedBut("fault()");
        }
        Check.due("no layer", Check.of("m0;").probate(), 0);
    }

    private static void faultOfTheLatest() {
        Doc.says(4, "The letter of the FAULT of the latest probate(); NONE.");
        OnionProbate x = new OnionProbate();
        Check.due("no probate() yet", x.fault(), NONE);
        x.feed('m');
        x.probate();
        Check.due("at the end", x.fault(), 1);
        x.feed('x');
        x.told(4);
        Check.due("letters do not change it", x.fault(), 1);
        x.probate();
        Check.due("the latest", x.fault(), 0);
        x.probate();
        Check.due("an empty text has none", x.fault(), NONE);
        Check.feedAll(x, "m0;x");
        x.probate();
        Check.due("again", x.fault(), 3);
        Check.feedAll(x, "m0;");
        x.probate();
        Check.due("a good one has none", x.fault(), NONE);
    }
}
