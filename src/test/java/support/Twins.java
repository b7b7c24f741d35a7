import java.util.LinkedHashMap;
import java.util.Map;
import java.util.function.Consumer;
import java.util.function.ToIntFunction;

/**
 * Two objects that have had the same calls. One is then asked more; if nothing was to change by that, all that both
 * can tell must still be the same. (To look at one object twice would take more than its 512 calls.)
 */
final class Twins {
    /** A text with something of everything, and what a long afternoon makes of it. */
    static final String RICH = "m40;l0 9;l1 15;l2 19;l4 3;l3 5;e3 2;e0 9;t0,1,2;t1,2,4,3;t1;";

    private final OnionProbate asked;
    private final OnionProbate left;

    Twins(String text, Consumer<OnionProbate> ahead) {
        asked = Check.of(text);
        left = Check.of(text);
        ahead.accept(asked);
        ahead.accept(left);
    }

    /** Two new objects, without a CASE. */
    Twins() {
        asked = new OnionProbate();
        left = new OnionProbate();
    }

    static Twins rich() {
        return new Twins(RICH, Twins::afternoon);
    }

    static void afternoon(OnionProbate x) {
        x.seed(7);
        x.peel(0);
        x.year(2);
        x.keep(0);
        x.stop(true);
        x.stop(false);
        x.visit();
        x.guess(0, 1, true);
        x.write(0, 9);
        x.feed('x');
        x.probate();
        x.feed('m');
    }

    Twins is(String call, ToIntFunction<OnionProbate> asking, int due) {
        Check.due(call, asking.applyAsInt(asked), due);
        return this;
    }

    void unchanged() {
        unchangedBut("");
    }

    /** One thing alone may differ, by the name that it has in whole(). */
    void unchangedBut(String exception) {
        Map<String, Integer> due = whole(left);
        Map<String, Integer> got = whole(asked);
        for (Map.Entry<String, Integer> e : due.entrySet()) {
            if (!e.getKey().equals(exception)) {
                Check.due("left unchanged: " + e.getKey(), got.getOrDefault(e.getKey(), Integer.MIN_VALUE), e.getValue());
            }
        }
        Check.due("left unchanged: so much is told", got.size(), due.size());
    }

    /** All that an object can tell, at most some 230 calls; it is no good for anything else then. */
    static Map<String, Integer> whole(OnionProbate x) {
        Map<String, Integer> all = new LinkedHashMap<>();
        for (int what = 0; what < 20; what++) {
            all.put("told(" + what + ")", x.told(what));
        }
        all.put("fault()", x.fault());
        for (int k = 0; k < all.get("told(1)"); k++) {
            all.put("layer(" + k + ", 0)", x.layer(k, 0));
            all.put("layer(" + k + ", 1)", x.layer(k, 1));
        }
        for (int e = 0; e < all.get("told(2)"); e++) {
            for (int what = 0; what < 5; what++) {
                all.put("executor(" + e + ", " + what + ")", x.executor(e, what));
            }
        }
        for (int t = 0; t < all.get("told(3)"); t++) {
            for (int k = 0; k < 8; k++) {
                all.put("type(" + t + ", " + k + ")", x.type(t, k));
            }
        }
        for (int i = 0; i < all.get("told(16)"); i++) {
            for (int what = 0; what < 4; what++) {
                all.put("logged(" + i + ", " + what + ")", x.logged(i, what));
            }
        }
        all.put("couldBe()", x.couldBe());
        all.put("judge()", x.judge());
        all.put("seed(0)", x.seed(0));
        for (int i = 0; i < 2 && i < all.get("told(19)"); i++) {
            all.put("undo(1), " + i, x.undo(1));
            brief(all, "undo(1), " + i + ": ", x);
        }
        for (int i = 0; i < 2; i++) {
            all.put("goBack(" + i + ")", x.goBack(i));
            brief(all, "goBack(" + i + "): ", x);
            all.put("seed behind it, " + i, x.seed(0));
        }
        return all;
    }

    private static void brief(Map<String, Integer> all, String when, OnionProbate x) {
        for (int what : new int[] {1, 5, 6, 7, 8, 13, 16}) {
            all.put(when + "told(" + what + ")", x.told(what));
        }
    }
}
