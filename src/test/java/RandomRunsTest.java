import java.util.Random;

/** Promises 1 to 33: random runs of up to 512 calls, each answer held against the Model's. */
public final class RandomRunsTest {
    private static final int RUNS = 4000;
    private static final int CALLS = 512;

    private final Random random;
    private final OnionProbate x = new OnionProbate();
    private final Model m = new Model();
    private int calls = 0;

    private RandomRunsTest(long seed) {
        random = new Random(seed);
    }

    public static void main(String[] args) {
        for (int run = 0; run < RUNS; run++) {
            new RandomRunsTest(run).go(run);
        }
        Check.end();
    }

    private void go(int run) {
        String start = "run " + run + " call ";
        while (calls < CALLS) {
            if (calls == 0 || random.nextInt(60) == 0) {
                feedText(start, randomText());
            } else {
                call(start);
            }
        }
        for (int what = 0; what < 20; what++) {
            Check.due(start + "at last told(" + what + ")", x.told(what), m.told(what));
        }
    }

    private void feedText(String start, String text) {
        for (int i = 0; i < text.length() && calls < CALLS; i++, calls++) {
            Check.due(start + calls + " feed", x.feed(text.charAt(i)), m.feed(text.charAt(i)));
        }
        Check.due(start + calls + " probate of " + text, x.probate(), m.probate());
        Check.due(start + calls + " fault of " + text, x.fault(), m.fault());
        calls += 2;
    }

    private int below(int n) {
        return random.nextInt(n);
    }

    private String randomText() {
        if (below(25) == 0) {
            return " ".repeat(below(3));
        }
        StringBuilder s = new StringBuilder("m").append(below(100)).append(';');
        int kinds = 1 + below(5);
        for (int i = 1 + below(below(4) == 0 ? 25 : 14); i > 0; i--) {
            switch (below(5)) {
                case 0:
                case 1: s.append('l').append(below(kinds)).append(' ').append(1 + below(20)); break;
                case 2: s.append('e').append(below(10)).append(' ').append(1 + below(9)); break;
                default:
                    s.append('t').append(below(kinds));
                    for (int k = below(8); k > 0; k--) {
                        s.append(',').append(below(kinds));
                    }
                    break;
            }
            s.append(';');
        }
        if (below(4) == 0) {
            for (int i = below(4); i >= 0; i--) {
                spoil(s);
            }
        }
        s.setLength(Math.min(s.length(), 245));
        return s.toString();
    }

    private void spoil(StringBuilder s) {
        String signs = "mlet;;,, 0123456789   xM-\t";
        char sign = signs.charAt(below(signs.length()));
        int at = below(s.length());
        switch (below(4)) {
            case 0: s.insert(at, sign); break;
            case 1: s.setCharAt(at, sign); break;
            case 2: s.insert(s.length(), sign); break;
            default: s.setLength(Math.max(1, s.length() - below(3))); break;
        }
    }

    /** Mostly within 0 .. n - 1, now and then a little or far outside. */
    private int about(int n) {
        switch (below(20)) {
            case 0: return -1;
            case 1: return n;
            case 2: return n + below(4) - 2;
            case 3: return below(4) == 0 ? random.nextInt() : below(n);
            default: return below(n);
        }
    }

    private void call(String start) {
        int a = 0;
        int b = 0;
        boolean is = random.nextBoolean();
        String s = start + calls + " ";
        calls++;
        switch (below(46)) {
            case 0: a = about(256); Check.due(s + "feed " + a, x.feed(a), m.feed(a)); if (below(3) > 0) {
                Check.due(s + "probate", x.probate(), m.probate());
            } break;
            case 1: Check.due(s + "fault", x.fault(), m.fault()); break;
            case 2:
            case 3:
            case 4:
            case 5: a = about(20); Check.due(s + "told " + a, x.told(a), m.told(a)); break;
            case 6: a = about(12); b = about(4); Check.due(s + "layer", x.layer(a, b), m.layer(a, b)); break;
            case 7: a = about(5); b = about(5); Check.due(s + "executor", x.executor(a, b), m.executor(a, b)); break;
            case 8: a = about(6); b = about(8); Check.due(s + "type", x.type(a, b), m.type(a, b)); break;
            case 9: a = about(20); b = about(4); Check.due(s + "logged", x.logged(a, b), m.logged(a, b)); break;
            case 10:
            case 11:
            case 12:
            case 13: a = about(3); Check.due(s + "peel " + a, x.peel(a), m.peel(a)); break;
            case 14: Check.due(s + "stop " + is, x.stop(is), m.stop(is)); break;
            case 15:
            case 16:
            case 17:
            case 18:
            case 19: Check.due(s + "visit", x.visit(), m.visit()); break;
            case 20: a = about(9) + 1; Check.due(s + "year " + a, x.year(a), m.year(a)); break;
            case 21: a = about(31); Check.due(s + "year " + a, x.year(a), m.year(a)); break;
            case 22: a = below(2) + about(3); Check.due(s + "drift " + a, x.drift(a), m.drift(a)); break;
            case 23: a = about(31); Check.due(s + "undo " + a, x.undo(a), m.undo(a)); break;
            case 24: a = about(4); Check.due(s + "undo " + a, x.undo(a), m.undo(a)); break;
            default: callToTry(s); break;
        }
    }

    private void callToTry(String s) {
        int a = 0;
        int b = 0;
        boolean is = random.nextBoolean();
        switch (below(22)) {
            case 0: a = about(5); b = about(2); Check.due(s + "worthIt", x.worthIt(a, b), m.worthIt(a, b)); break;
            case 1:
            case 2: a = about(6); b = about(2); Check.due(s + "parts", x.parts(a, b), m.parts(a, b)); break;
            case 3: a = about(2); Check.due(s + "byTurns", x.byTurns(a), m.byTurns(a)); break;
            case 4: a = about(3); Check.due(s + "twoSides", x.twoSides(a), m.twoSides(a)); break;
            case 5: a = about(5); Check.due(s + "nextKind", x.nextKind(a), m.nextKind(a)); break;
            case 6: a = about(5); Check.due(s + "allows", x.allows(a), m.allows(a)); break;
            case 7: a = about(2); Check.due(s + "run", x.run(a), m.run(a)); break;
            case 8:
            case 9: a = about(9); Check.due(s + "fair", x.fair(a), m.fair(a)); break;
            case 10: a = about(61); b = about(101); Check.due(s + "dry", x.dry(a, b), m.dry(a, b)); break;
            case 11: a = about(8); b = about(5); Check.due(s + "guess", x.guess(a, b, is), m.guess(a, b, is)); break;
            case 12: Check.due(s + "couldBe", x.couldBe(), m.couldBe()); break;
            case 13: Check.due(s + "ask", x.ask(), m.ask()); break;
            case 14: a = about(4); b = m.executor(a, 2); b = b < 0 || below(9) == 0 ? about(10000) : b;
                Check.due(s + "write", x.write(a, b), m.write(a, b)); break;
            case 15: Check.due(s + "judge", x.judge(), m.judge()); break;
            case 16: if (below(4) == 0) {
                Check.due(s + "tear", x.tear(), m.tear());
            } break;
            case 17: a = below(9) == 0 ? about(9) : random.nextInt(); Check.due(s + "seed", x.seed(a), m.seed(a)); break;
            case 18: a = about(2); Check.due(s + "keep", x.keep(a), m.keep(a)); break;
            case 19: a = about(2); Check.due(s + "goBack", x.goBack(a), m.goBack(a)); break;
            case 20: a = about(31); Check.due(s + "drift", x.drift(a), m.drift(a)); break;
            default: a = about(20); Check.due(s + "told " + a, x.told(a), m.told(a)); break;
        }
    }
}
