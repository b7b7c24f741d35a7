/** The sentences that name no boundary, where no test of edges/ names them. */
final class PlainSentences {
    private static final int NONE = OnionProbate.NONE;

    private PlainSentences() {
    }

    static void check() {
        text();
        clauses();
        entered();
        allThick();
        toldSixToEighteen();
        Check.sentence = "";
    }

    private static void text() {
        Doc.says(0, "THE CASE is told in a text");
        OnionProbate x = new OnionProbate();
        Check.feedAll(x, "m4;l0 2;");
        Check.due("none before probate()", x.told(0), 0);
        Check.due("nor layers", x.told(1), 0);
        Check.due("probate()", x.probate(), 1);
        Check.due("a CASE", x.told(0), 1);
        Check.feedAll(x, "m4;l0 2;l0 3;");
        Check.due("the next text alone changes nothing", x.told(1), 1);
        Check.due("probate()", x.probate(), 2);
        Check.due("now", x.told(1), 2);
    }

    private static void clauses() {
        Doc.says(0, ": clauses: 'm' M ';'");
        Check.due("M", Check.of("m42;").told(7), 42);

        Doc.says(0, "'l' K T ';'");
        OnionProbate layers = Check.of("m0;l4 3;l2 14;");
        Check.due("K", layers.layer(0, 0), 4);
        Check.due("T", layers.layer(0, 1), 3);
        Check.due("K", layers.layer(1, 0), 2);
        Check.due("T", layers.layer(1, 1), 14);
        Texts.fault("m0;l4 3", 1, 7);
        Texts.fault("m0;l4;", 1, 5);
        Texts.fault("m0;l4 3 3;", 1, 8);

        Doc.says(0, "'e' C Q ';'");
        OnionProbate executors = Check.of("m0;e0 9;e7 2;");
        Check.due("C", executors.executor(0, 0), 0);
        Check.due("Q", executors.executor(0, 1), 9);
        Check.due("C", executors.executor(1, 0), 7);
        Check.due("Q", executors.executor(1, 1), 2);
        Texts.fault("m0;e4 3", 1, 7);
        Texts.fault("m0;e4;", 1, 5);
        Texts.fault("m0;e4 3,3;", 1, 7);

        Doc.says(0, "'t' K {',' K} ';'");
        OnionProbate types = Check.of("m0;t4;t1,0,3;");
        int[][] due = {{4, NONE, NONE, NONE}, {1, 0, 3, NONE}};
        for (int t = 0; t < due.length; t++) {
            for (int k = 0; k < due[t].length; k++) {
                Check.due("type(" + t + ", " + k + ")", types.type(t, k), due[t][k]);
            }
        }
        Texts.fault("m0;t4", 1, 5);
        Texts.fault("m0;t4,", 1, 6);
        Texts.fault("m0;t4 3;", 1, 6);
    }

    private static void entered() {
        Doc.says(0, "ENTERED: THE LOG keeps the latest 20: YEAR, EXECUTOR, KIND, T.");
        OnionProbate x = Check.of("m0;l1 8;l2 19;l3 6;l4 7;e0 1;e0 1;e0 1;");
        int[] executors = {2, 0, 1, 2};
        int[] thick = {8, 19, 9, 7};
        for (int i = 0; i < 4; i++) {
            x.year(i == 0 ? 2 : i == 2 ? 1 : 0);
            x.peel(executors[i]);
        }
        int[] years = {2, 2, 3, 3};
        for (int i = 0; i < 4; i++) {
            int[] due = {years[i], executors[i], i + 1, thick[i]};
            for (int what = 0; what < 4; what++) {
                Check.due("peel " + i + ", " + what, x.logged(3 - i, what), due[what]);
            }
        }
    }

    private static void allThick() {
        Doc.says(0, "ALL THICK together;");
        OnionProbate x = Check.of("m50;l0 1;l1 20;l2 3;l3 4;l4 5;e0 1;");
        Check.due("each KIND by its T", x.told(8), 33);
        x.visit();
        Check.due("a visit", x.told(8), 34);
        x.year(2);
        Check.due("two years of the shoot", x.told(8), 36);
        x.peel(0);
        Check.due("what is gone is not counted", x.told(8), 34);
    }

    /** Each of these has another number here, so that none can stand for another. */
    private static void toldSixToEighteen() {
        Doc.says(5, ", 6 1 it is STOPPED, 0 not, 7 what THE CROWN has, 8 ALL THICK, 9 CUT, 10 CAN BE, 11 SURE, 12 LAW, "
            + "13 ENVY, 14 WEEPS, 15 DRY IN, 16 how many THE LOG has, 17 what is GUESSED, 18 entries of THE BOOK, ");
        OnionProbate x = Check.of("m17;l0 20;l0 20;l0 10;l2 6;l2 9;l1 9;l3 6;e0 5;e1 1;e2 7;t2;t0,3;t2,2,1,3,0;t2,2;");
        for (int i = 0; i < 3; i++) {
            x.peel(1);
        }
        x.stop(true);
        for (int i = 0; i < 4; i++) {
            x.guess(i, i, true);
        }
        for (int i = 0; i < 5; i++) {
            x.write(0, 0);
        }
        int law = 1 << 5 * 2 + 2 | 1 << 5 * 2 + 1 | 1 << 5 + 3;
        int[] due = {1, 0, 30, 2, 1 | 4 | 8, 0, law, 50, 1, 53, 3, 4, 5};
        for (int i = 0; i < due.length; i++) {
            Check.due("told(" + (i + 6) + ")", x.told(i + 6), due[i]);
        }
        x.stop(false);
        Check.due("let go on", x.told(6), 0);
        for (int i = 0; i < 4; i++) {
            x.peel(0);
        }
        int[] none = {0, 17, 0, NONE, 15, NONE, 0, 50};
        for (int i = 0; i < none.length; i++) {
            Check.due("none left: told(" + (i + 6) + ")", x.told(i + 6), none[i]);
        }
        Check.due("THE LOG", x.told(16), 7);
    }
}
