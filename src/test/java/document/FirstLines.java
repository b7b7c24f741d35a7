import java.util.LinkedHashMap;
import java.util.Map;
import java.util.function.ToIntFunction;

/** 'What it is', and the first lines of 'Terms', which all promises use. */
final class FirstLines {
    private static final int NONE = OnionProbate.NONE;
    private static final int NOT = OnionProbate.NOT;
    private static final int MOST_CALLS = 512;
    private static final String TEXT = "m9;l0 3;l4 1;e1 1;e0 2;t0,4;";

    private FirstLines() {
    }

    static void check() {
        the512thCall();
        busyTill512();
        capitals();
        numbers();
        fromZeroOn();
        sets();
        refusals();
        refusedChangesNothing();
        billion();
        Check.sentence = "";
    }

    /** Each call of the face, with its answer for a new CASE of TEXT. */
    private static Map<ToIntFunction<OnionProbate>, Integer> calls() {
        Map<ToIntFunction<OnionProbate>, Integer> due = new LinkedHashMap<>();
        due.put(x -> x.feed('m'), 1);
        due.put(OnionProbate::probate, 0);
        due.put(OnionProbate::fault, NONE);
        due.put(x -> x.told(8), 4);
        due.put(x -> x.layer(0, 2), 3);
        due.put(x -> x.executor(0, 0), 1);
        due.put(x -> x.type(0, 1), 4);
        due.put(x -> x.logged(0, 0), NONE);
        due.put(x -> x.peel(0), 3);
        due.put(x -> x.stop(true), 0);
        due.put(OnionProbate::visit, 4);
        due.put(x -> x.year(1), 1);
        due.put(x -> x.drift(1), 1);
        due.put(x -> x.undo(1), NOT);
        due.put(x -> x.worthIt(1, 1), 1005);
        due.put(x -> x.parts(2, 0), 3);
        due.put(x -> x.byTurns(0), 1003);
        due.put(x -> x.twoSides(2), 1);
        due.put(x -> x.nextKind(0), 0);
        due.put(x -> x.allows(0), 2);
        due.put(x -> x.run(0), 1);
        due.put(x -> x.fair(NONE), 3);
        due.put(x -> x.dry(1, 50), 500000000);
        due.put(x -> x.guess(0, 0, true), 1);
        due.put(OnionProbate::couldBe, 1);
        due.put(OnionProbate::ask, NONE);
        due.put(x -> x.write(0, 0), 1);
        due.put(OnionProbate::judge, NONE);
        due.put(OnionProbate::tear, 0);
        due.put(x -> x.seed(5), 0);
        due.put(x -> x.keep(0), 1);
        due.put(x -> x.goBack(0), NOT);
        return due;
    }

    private static void the512thCall() {
        Doc.says(Doc.WHAT_IT_IS, "An object is used for at most 512 calls after it has been made; what later calls "
            + "answer is free.");
        Map<ToIntFunction<OnionProbate>, Integer> due = calls();
        Check.due("one of each call", due.size(), Face.calls().size());
        int which = 0;
        for (Map.Entry<ToIntFunction<OnionProbate>, Integer> e : due.entrySet()) {
            String name = Face.calls().keySet().toArray(new String[0])[which];
            Check.due(name + " at once", e.getKey().applyAsInt(Check.of(TEXT)), e.getValue());
            OnionProbate x = Check.of(TEXT);
            for (int calls = TEXT.length() + 1; calls < MOST_CALLS - 1; calls++) {
                x.told(calls % 20);
            }
            Check.due(name + " as the 512th", e.getKey().applyAsInt(x), e.getValue());
            which++;
        }
    }

    private static void busyTill512() {
        OnionProbate x = Check.of(TEXT);
        int calls = TEXT.length() + 1;
        while (calls + 4 <= MOST_CALLS - 1) {
            Check.due("keep", x.keep(calls % 2), 1);
            Check.due("drift", x.drift(30), 30);
            Check.due("undo", x.undo(30), 0);
            Check.due("seed", x.seed(calls) < 0 ? 0 : 1, 1);
            calls += 4;
        }
        Check.due("all is as it was", x.told(8), 4);
        // A text for each fifteen calls or so, and its case put away by the next.
        OnionProbate y = new OnionProbate();
        for (int i = 0; i < 30; i++) {
            Check.feedAll(y, "m" + i + ";l0 " + (i % 20 + 1) + ";");
            Check.due("text " + i, y.probate(), 1);
            Check.due("its layer", y.layer(0, 1), i % 20 + 1);
        }
    }

    private static void capitals() {
        // This tells how the document is written, so that there is nothing to ask of the class.
        Doc.says(0, "Words in capitals are told where they come first.");
    }

    private static void numbers() {
        Doc.says(0, "All numbers are whole; / cuts towards 0.");
        for (int t = 1; t <= 20; t++) {
            Check.due("T / 2 of " + t, Check.of("m0;l1 " + t + ";").layer(0, 2), (t - t % 2) / 2);
        }
        Check.due("half of 3 is 1: 2 are more", Check.of("m0;l0 1;l0 1;l0 1;").told(9), 1);
        Check.due("a hundredth of 10 is 0", new OnionProbate().dry(5, 1), 0);
    }

    private static void fromZeroOn() {
        Doc.says(0, "What has a number has it from 0 on, as it comes.");
        OnionProbate x = Check.of("m0;l3 5;e4 2;t2;l1 6;e3 7;t1;l2 9;e9 9;t0,4;");
        int[] kinds = {3, 1, 2};
        int[] thick = {5, 6, 9};
        int[] cared = {4, 3, 9};
        int[] types = {2, 1, 0};
        for (int i = 0; i < 3; i++) {
            Check.due("KIND of LAYER " + i, x.layer(i, 0), kinds[i]);
            Check.due("T of LAYER " + i, x.layer(i, 1), thick[i]);
            Check.due("CARED of EXECUTOR " + i, x.executor(i, 0), cared[i]);
            Check.due("TYPE " + i, x.type(i, 0), types[i]);
        }
        Check.due("a TYPE's second", x.type(2, 1), 4);
        x.write(0, 1);
        Check.due("the first of THE BOOK", x.judge(), 0);
        Check.feedAll(x, "xm");
        x.probate();
        Check.due("the first letter", x.fault(), 0);
        Check.due("IMAGES 0 and 1", x.keep(0) + x.keep(1), 2);
    }

    private static void sets() {
        Doc.says(0, "A SET is a whole number, bit k for k.");
        for (int t = 0; t < 6; t++) {
            OnionProbate x = Check.of("m0;l0 1;" + "t1;".repeat(t) + "t0;" + "t1;".repeat(5 - t));
            x.guess(0, 0, true);
            Check.due("TYPE " + t + " can be", x.told(10), 1 << t);
            Check.due("TYPE " + t + " could be", x.couldBe(), 1 << t);
        }
        for (int k = 0; k < 12; k++) {
            OnionProbate x = Check.of("m0;" + "l1 1;".repeat(k) + "l0 1;" + "l1 1;".repeat(11 - k) + "t3,0;");
            Check.due("LAYER " + k + " allows", x.allows(3), 1 << k);
        }
        for (int upper = 0; upper < 5; upper++) {
            for (int lower = 0; lower < 5; lower++) {
                int law = Check.of("m0;l" + upper + " 1;l" + lower + " 1;").told(12);
                Check.due(upper + " on " + lower, law, 1 << 5 * upper + lower);
            }
        }
    }

    private static void refusals() {
        Doc.says(0, "NONE is -1. REFUSALS, of several the first in this order: UNKNOWN (a LAYER, EXECUTOR, TYPE, IMAGE "
            + "that there is not; one twice, where two are asked), OUTSIDE (another number out of its bounds), NOT "
            + "(not now, as told), FULL. They are far below all that is counted: -1000000001 and on.");
        Check.due("NONE", OnionProbate.NONE, -1);
        int[] refusals = {OnionProbate.UNKNOWN, OnionProbate.OUTSIDE, OnionProbate.NOT, OnionProbate.FULL};
        for (int i = 0; i < refusals.length; i++) {
            Check.due("refusal " + i, refusals[i], -1000000001 - i);
        }
        OnionProbate x = Check.of("m0;l0 1;e0 1;t0;");
        x.stop(true);
        for (int i = 0; i < 20; i++) {
            x.write(0, 0);
        }
        Check.due("all three of write", x.write(1, -1), OnionProbate.UNKNOWN);
        Check.due("two of write", x.write(0, -1), OnionProbate.OUTSIDE);
        Check.due("one of write", x.write(0, 0), OnionProbate.FULL);
        Check.due("both of peel", x.peel(1), OnionProbate.UNKNOWN);
        Check.due("both of undo", new OnionProbate().undo(0), OnionProbate.OUTSIDE);
        Check.due("both of goBack", x.goBack(2), OnionProbate.UNKNOWN);
    }

    private static void refusedChangesNothing() {
        Doc.says(0, "What is refused changes nothing.");
        Twins.rich().is("feed", x -> x.feed(256), OnionProbate.OUTSIDE).is("peel", x -> x.peel(2), OnionProbate.UNKNOWN)
            .is("year", x -> x.year(31), OnionProbate.OUTSIDE).is("drift", x -> x.drift(31), OnionProbate.OUTSIDE)
            .is("undo", x -> x.undo(4), NOT).is("guess", x -> x.guess(8, 0, true), OnionProbate.OUTSIDE)
            .is("write", x -> x.write(0, 10000), OnionProbate.OUTSIDE).is("seed", x -> x.seed(-1), OnionProbate.OUTSIDE)
            .is("keep", x -> x.keep(2), OnionProbate.UNKNOWN).is("goBack", x -> x.goBack(1), NOT)
            .is("worthIt", x -> x.worthIt(0, 2), OnionProbate.OUTSIDE).is("fair", x -> x.fair(9), OnionProbate.UNKNOWN)
            .is("told", x -> x.told(20), OnionProbate.OUTSIDE).unchanged();
        new Twins().is("stop", x -> x.stop(true), NOT).is("visit", OnionProbate::visit, NOT)
            .is("year", x -> x.year(1), NOT).is("drift", x -> x.drift(1), NOT).unchanged();
    }

    private static void billion() {
        Doc.says(0, "BILLION is 1000000000.");
        Check.due("no YEAR", new OnionProbate().dry(0, 50), 1000000000);
    }
}
