import java.util.ArrayDeque;
import java.util.ArrayList;
import java.util.HashMap;
import java.util.List;
import java.util.Map;

/**
 * The document once more, as plainly as the Java library allows and by other ways than the class goes (a list of
 * tokens, all partings tried, all turns played), so that random runs can be held against it.
 */
final class Model {
    private static final int NONE = -1, UNKNOWN = -1000000001, OUTSIDE = -1000000002, NOT = -1000000003,
        FULL = -1000000004;

    private record Layer(int kind, int thick) {
        int worth() {
            return new int[] {thick, thick / 2, 2 * thick, thick, 0}[kind];
        }

        int sting() {
            return new int[] {thick, thick, 2 * thick, thick, 0}[kind];
        }
    }

    private record Entry(int year, int executor, int kind, int thick) {
    }

    private static final class State {
        final List<Layer> layers = new ArrayList<>();
        final List<Entry> log = new ArrayList<>();
        final Map<Integer, Integer> got = new HashMap<>();
        final Map<Integer, Integer> tears = new HashMap<>();
        final Map<Integer, Integer> peeled = new HashMap<>();
        int years;
        boolean stopped;
        boolean found;
        Integer ahead;

        State copy() {
            State s = new State();
            s.layers.addAll(layers);
            s.log.addAll(log);
            s.got.putAll(got);
            s.tears.putAll(tears);
            s.peeled.putAll(peeled);
            s.years = years;
            s.stopped = stopped;
            s.found = found;
            s.ahead = ahead;
            return s;
        }
    }

    private static final class Fault extends Exception {
        private static final long serialVersionUID = 1L;
        final int number;
        final int at;

        Fault(int number, int at) {
            super("fault");
            this.number = number;
            this.at = at;
        }
    }

    /** A word or sign, or a number (number not null); the end has sign 0 and is no letter. */
    private record Token(int at, int sign, String number) {
    }

    private String text = "";
    private int faultAt = NONE;
    private boolean isCase;
    private int middle;
    private List<int[]> executors = new ArrayList<>();
    private List<List<Integer>> types = new ArrayList<>();
    private State now = new State();
    private final ArrayDeque<State> before = new ArrayDeque<>();
    private final State[] images = new State[2];
    private final long[] imageSeeds = new long[2];
    private final List<Object[]> guesses = new ArrayList<>();
    private final List<int[]> book = new ArrayList<>();
    private long seed;

    private static boolean within(int n, int least, int most) {
        return least <= n && n <= most;
    }

    int feed(int letter) {
        if (!within(letter, 0, 255)) {
            return OUTSIDE;
        }
        if (text.length() == 240) {
            return FULL;
        }
        text += (char) letter;
        return text.length();
    }

    private static List<Token> tokens(String text) {
        List<Token> all = new ArrayList<>();
        int i = 0;
        while (i < text.length()) {
            int start = i;
            while (i < text.length() && "0123456789".indexOf(text.charAt(i)) >= 0) {
                i++;
            }
            if (i > start) {
                all.add(new Token(start, '0', text.substring(start, i)));
            } else {
                if (text.charAt(i) != ' ') {
                    all.add(new Token(i, text.charAt(i) == 0 ? -5 : text.charAt(i), null));
                }
                i++;
            }
        }
        all.add(new Token(text.length(), 0, null));
        return all;
    }

    private static int number(Token t, int least, int most) throws Fault {
        if (t.number == null) {
            throw new Fault(1, t.at);
        }
        if (t.number.length() > 3 || !within(Integer.parseInt(t.number), least, most)) {
            throw new Fault(2, t.at);
        }
        return Integer.parseInt(t.number);
    }

    private static void sign(Token t, int sign) throws Fault {
        if (t.number != null || t.sign != sign) {
            throw new Fault(1, t.at);
        }
    }

    int probate() {
        List<Token> all = tokens(text);
        boolean empty = text.chars().allMatch(letter -> letter == ' ');
        text = "";
        faultAt = NONE;
        Model draft = new Model();
        try {
            if (!empty) {
                draft.read(all);
            }
        } catch (Fault f) {
            faultAt = f.at;
            return -10 - f.number;
        }
        isCase = !empty;
        middle = draft.middle;
        executors = draft.executors;
        types = draft.types;
        now = draft.now;
        now.found = isCase && now.layers.isEmpty();
        before.clear();
        images[0] = null;
        images[1] = null;
        guesses.clear();
        book.clear();
        return now.layers.size();
    }

    private void read(List<Token> all) throws Fault {
        sign(all.get(0), 'm');
        middle = number(all.get(1), 0, 99);
        sign(all.get(2), ';');
        int i = 3;
        while (all.get(i).sign != 0) {
            Token t = all.get(i);
            if (t.number != null || "mlet".indexOf(t.sign) < 0) {
                throw new Fault(1, t.at);
            }
            if (t.sign == 'm' || t.sign == 'l' && now.layers.size() == 12 || t.sign == 'e' && executors.size() == 5
                || t.sign == 't' && types.size() == 6) {
                throw new Fault(3, t.at);
            }
            if (t.sign == 't') {
                List<Integer> kinds = new ArrayList<>();
                do {
                    if (kinds.size() == 8) {
                        throw new Fault(1, all.get(i).at);
                    }
                    kinds.add(number(all.get(i + 1), 0, 4));
                    i += 2;
                } while (all.get(i).sign == ',');
                types.add(kinds);
            } else {
                int a = number(all.get(i + 1), 0, t.sign == 'l' ? 4 : 9);
                int b = number(all.get(i + 2), 1, t.sign == 'l' ? 20 : 9);
                if (t.sign == 'l') {
                    now.layers.add(new Layer(a, b));
                } else {
                    executors.add(new int[] {a, b});
                }
                i += 3;
            }
            sign(all.get(i), ';');
            i++;
        }
    }

    int fault() {
        return faultAt;
    }

    private int got(int e) {
        return now.got.getOrDefault(e, 0);
    }

    private int tears(int e) {
        return now.tears.getOrDefault(e, 0);
    }

    int told(int what) {
        switch (what) {
            case 0: return isCase ? 1 : 0;
            case 1: return now.layers.size();
            case 2: return executors.size();
            case 3: return types.size();
            case 4: return text.length();
            case 5: return now.years;
            case 6: return now.stopped ? 1 : 0;
            case 7: return now.found ? middle : 0;
            case 8: return now.layers.stream().mapToInt(Layer::thick).sum();
            case 9:
                for (int k = 0, sum = 0; k < now.layers.size(); k++) {
                    sum += now.layers.get(k).thick;
                    if (sum > told(8) / 2) {
                        return k;
                    }
                }
                return NONE;
            case 10: return setOf(canBe());
            case 11: return sure();
            case 12:
                int law = 0;
                for (int k = 0; k + 1 < now.layers.size(); k++) {
                    law |= 1 << 5 * now.layers.get(k).kind + now.layers.get(k + 1).kind;
                }
                return law;
            case 13: return envy(gots());
            case 14:
                int weeps = NONE;
                for (int e = executors.size() - 1; e >= 0; e--) {
                    weeps = weeps == NONE || tears(e) >= tears(weeps) ? e : weeps;
                }
                return weeps;
            case 15: return dryIn();
            case 16: return now.log.size();
            case 17: return guesses.size();
            case 18: return book.size();
            case 19: return before.size();
            default: return OUTSIDE;
        }
    }

    private static int setOf(List<Integer> numbers) {
        int set = 0;
        for (int n : numbers) {
            set += 1 << n;
        }
        return set;
    }

    private List<Integer> kindsNow() {
        return now.layers.stream().map(Layer::kind).toList();
    }

    private List<Integer> canBe() {
        List<Integer> fit = new ArrayList<>();
        for (int t = 0; t < types.size(); t++) {
            int both = Math.min(types.get(t).size(), now.layers.size());
            if (types.get(t).subList(0, both).equals(kindsNow().subList(0, both))) {
                fit.add(t);
            }
        }
        return fit;
    }

    private List<Integer> nexts() {
        return canBe().stream().map(types::get).filter(t -> t.size() > now.layers.size())
            .map(t -> t.get(now.layers.size())).toList();
    }

    private int sure() {
        List<Integer> different = nexts().stream().distinct().toList();
        return different.size() == 1 ? different.get(0) : NONE;
    }

    private int[] gots() {
        int[] gots = new int[executors.size()];
        for (int e = 0; e < gots.length; e++) {
            gots[e] = got(e);
        }
        return gots;
    }

    private static int envy(int[] gots) {
        int[] sorted = gots.clone();
        java.util.Arrays.sort(sorted);
        return sorted.length == 0 ? 0 : sorted[sorted.length - 1] - sorted[0];
    }

    private int dryIn() {
        for (int n = 0; n <= 9999; n++) {
            boolean dry = true;
            for (int e = 0; e < executors.size(); e++) {
                dry &= tears(e) <= n * executors.get(e)[1];
            }
            if (dry) {
                return n;
            }
        }
        return 9999;
    }

    int layer(int k, int what) {
        if (!within(k, 0, now.layers.size() - 1)) {
            return UNKNOWN;
        }
        if (!within(what, 0, 3)) {
            return OUTSIDE;
        }
        Layer l = now.layers.get(k);
        return new int[] {l.kind, l.thick, l.worth(), l.sting()}[what];
    }

    int executor(int e, int what) {
        if (!within(e, 0, executors.size() - 1)) {
            return UNKNOWN;
        }
        if (!within(what, 0, 4)) {
            return OUTSIDE;
        }
        int[] told = executors.get(e);
        return new int[] {told[0], told[1], got(e), tears(e), now.peeled.getOrDefault(e, 0)}[what];
    }

    int type(int t, int k) {
        if (!within(t, 0, types.size() - 1)) {
            return UNKNOWN;
        }
        if (!within(k, 0, 7)) {
            return OUTSIDE;
        }
        return kindOf(t, k);
    }

    private int kindOf(int t, int k) {
        return k < types.get(t).size() ? types.get(t).get(k) : NONE;
    }

    int logged(int i, int what) {
        if (!within(what, 0, 3)) {
            return OUTSIDE;
        }
        if (!within(i, 0, now.log.size() - 1)) {
            return NONE;
        }
        Entry e = now.log.get(now.log.size() - 1 - i);
        return new int[] {e.year, e.executor, e.kind, e.thick}[what];
    }

    private void deed() {
        before.addLast(now.copy());
        if (before.size() > 30) {
            before.removeFirst();
        }
    }

    private void addGot(int e, int more) {
        now.got.put(e, Math.min(9999, got(e) + more));
    }

    private int takeOff(int e) {
        Layer l = now.layers.remove(0);
        addGot(e, l.worth());
        now.tears.put(e, Math.min(9999, tears(e) + l.sting() + executors.get(e)[0]));
        now.peeled.merge(e, 1, Integer::sum);
        if (l.kind == 4 && now.ahead != null) {
            addGot(now.ahead, 5);
        }
        now.ahead = e;
        now.log.add(new Entry(now.years, e, l.kind, l.thick));
        if (now.log.size() > 20) {
            now.log.remove(0);
        }
        now.found |= now.layers.isEmpty();
        return l.worth();
    }

    int peel(int e) {
        if (!within(e, 0, executors.size() - 1)) {
            return UNKNOWN;
        }
        if (now.layers.isEmpty() || now.stopped) {
            return NOT;
        }
        deed();
        return takeOff(e);
    }

    int stop(boolean is) {
        if (!isCase) {
            return NOT;
        }
        deed();
        int was = now.stopped ? 1 : 0;
        now.stopped = is;
        return was;
    }

    private void grow() {
        Layer l = now.layers.get(0);
        if (l.thick < 20) {
            now.layers.set(0, new Layer(l.kind, l.thick + 1));
        } else if (now.layers.size() < 12) {
            now.layers.add(0, new Layer(2, 1));
        }
    }

    int visit() {
        if (now.layers.isEmpty()) {
            return NOT;
        }
        deed();
        grow();
        return now.layers.get(0).thick;
    }

    private void pass() {
        now.layers.replaceAll(l -> l.kind == 3 && l.thick < 20 ? new Layer(3, l.thick + 1) : l);
        for (int e = 0; e < executors.size(); e++) {
            now.tears.put(e, Math.max(0, tears(e) - executors.get(e)[1]));
        }
        now.years++;
    }

    private int years(int n, boolean byDraws) {
        if (!within(n, 1, 30)) {
            return OUTSIDE;
        }
        if (!isCase) {
            return NOT;
        }
        if (now.years > 9000) {
            return FULL;
        }
        for (int i = 0; i < n; i++) {
            deed();
            if (byDraws && !executors.isEmpty()) {
                byDraw();
            }
            pass();
        }
        return now.years;
    }

    int year(int n) {
        return years(n, false);
    }

    int drift(int n) {
        return years(n, true);
    }

    private int draw(int n) {
        seed = (seed * 1103515245L + 12345L) % 2147483648L;
        return (int) (seed / 65536 % n);
    }

    private void byDraw() {
        int d = draw(6);
        if (d <= 1) {
            int e = draw(executors.size());
            if (!now.stopped && !now.layers.isEmpty()) {
                takeOff(e);
            }
        } else if (d == 2 && !now.layers.isEmpty()) {
            grow();
        } else if (d == 3) {
            now.stopped = !now.stopped;
        }
    }

    int undo(int n) {
        if (!within(n, 1, 30)) {
            return OUTSIDE;
        }
        if (before.size() < n) {
            return NOT;
        }
        for (int i = 0; i < n; i++) {
            now = before.removeLast();
        }
        return now.years;
    }

    int worthIt(int e, int what) {
        if (!within(e, 0, executors.size() - 1)) {
            return UNKNOWN;
        }
        if (!within(what, 0, 1)) {
            return OUTSIDE;
        }
        int sum = 0;
        int[] best = {0, 0};
        for (int k = 0; k < now.layers.size(); k++) {
            Layer l = now.layers.get(k);
            sum += l.worth() - l.sting() - executors.get(e)[0] + (l.kind == 4 && k > 0 ? 5 : 0);
            if (sum > best[1]) {
                best = new int[] {k + 1, sum};
            }
        }
        return what == 0 ? best[0] : best[1] + 1000;
    }

    /** All partings of the layers from this one on: the least greatest sting, and the size of the first part. */
    private int[] parting(int from, int n) {
        int sting = 0;
        int[] best = null;
        for (int size = 1; from + size <= now.layers.size(); size++) {
            sting += now.layers.get(from + size - 1).sting();
            int[] rest = null;
            if (n > 1) {
                rest = parting(from + size, n - 1);
            } else if (from + size == now.layers.size()) {
                rest = new int[] {0, 0};
            }
            if (rest != null && (best == null || Math.max(sting, rest[0]) < best[0])) {
                best = new int[] {Math.max(sting, rest[0]), size};
            }
        }
        return best;
    }

    int parts(int n, int what) {
        if (!within(n, 1, 5) || !within(what, 0, 1)) {
            return OUTSIDE;
        }
        int[] best = parting(0, n);
        return best == null ? NONE : best[what];
    }

    private int play(int from) {
        int n = now.layers.size() - from;
        if (n == 0) {
            return 0;
        }
        int one = turn(from, 1);
        return n == 1 ? one : Math.max(one, turn(from, 2));
    }

    private int turn(int from, int peels) {
        int sum = 0;
        for (int k = from; k < from + peels; k++) {
            sum += now.layers.get(k).worth();
        }
        return sum - play(from + peels);
    }

    int byTurns(int what) {
        if (!within(what, 0, 1)) {
            return OUTSIDE;
        }
        if (what == 0) {
            return 1000 + play(0);
        }
        return now.layers.isEmpty() ? 0 : turn(0, 1) == play(0) ? 1 : 2;
    }

    int twoSides(int what) {
        if (!within(what, 0, 2)) {
            return OUTSIDE;
        }
        int[] answer = {0, 0, NONE};
        int low = 0;
        int high = now.layers.size() - 1;
        for (int turn = 0; low <= high; turn++) {
            int k = turn % 2 == 0 ? low++ : high--;
            answer[turn % 2] += now.layers.get(k).worth();
            answer[2] = k;
        }
        return answer[what];
    }

    int nextKind(int kind) {
        if (!within(kind, 0, 4)) {
            return OUTSIDE;
        }
        return (int) nexts().stream().filter(k -> k == kind).count();
    }

    int allows(int kind) {
        if (!within(kind, 0, 4)) {
            return OUTSIDE;
        }
        List<Integer> on = new ArrayList<>();
        for (int k = 0; k < now.layers.size(); k++) {
            List<Integer> pair = List.of(kind, now.layers.get(k).kind);
            if (types.stream().anyMatch(t -> java.util.Collections.indexOfSubList(t, pair) >= 0)) {
                on.add(k);
            }
        }
        return setOf(on);
    }

    int run(int what) {
        if (!within(what, 0, 1)) {
            return OUTSIDE;
        }
        for (int length = now.layers.size(); length > 0; length--) {
            for (int k = 0; k + length <= now.layers.size(); k++) {
                if (kindsNow().subList(k, k + length).stream().distinct().count() == 1) {
                    return what == 0 ? length : k;
                }
            }
        }
        return what == 0 ? 0 : NONE;
    }

    int fair(int k) {
        if (!within(k, NONE, now.layers.size() - 1)) {
            return UNKNOWN;
        }
        int[] shares = gots();
        int[] takers = new int[now.layers.size()];
        for (int i = 0; i < takers.length; i++) {
            for (int e = 0; e < shares.length; e++) {
                if (shares[e] < shares[takers[i]]) {
                    takers[i] = e;
                }
            }
            if (shares.length > 0) {
                shares[takers[i]] += now.layers.get(i).worth();
            }
        }
        return shares.length == 0 ? NONE : k == NONE ? envy(shares) : takers[k];
    }

    int dry(int n, int q) {
        if (!within(n, 0, 60) || !within(q, 0, 100)) {
            return OUTSIDE;
        }
        return n == 0 ? 1000000000 : (int) ((long) dry(n - 1, q) * q / 100);
    }

    int guess(int k, int kind, boolean is) {
        if (!within(k, 0, 7) || !within(kind, 0, 4)) {
            return OUTSIDE;
        }
        if (guesses.size() == 6) {
            return FULL;
        }
        guesses.add(new Object[] {k, kind, is});
        return guesses.size();
    }

    private List<Integer> fitting() {
        List<Integer> fit = new ArrayList<>();
        for (int t = 0; t < types.size(); t++) {
            boolean all = true;
            for (Object[] g : guesses) {
                all &= (kindOf(t, (int) g[0]) == (int) g[1]) == (boolean) g[2];
            }
            if (all) {
                fit.add(t);
            }
        }
        return fit;
    }

    int couldBe() {
        return setOf(fitting());
    }

    int ask() {
        List<Integer> fit = fitting();
        int best = NONE;
        int least = fit.size();
        for (int k = 0; k < 8; k++) {
            Map<Integer, Integer> parts = new HashMap<>();
            for (int t : fit) {
                parts.merge(kindOf(t, k), 1, Integer::sum);
            }
            int greatest = parts.values().stream().mapToInt(n -> n).max().orElse(0);
            if (greatest < least) {
                least = greatest;
                best = k;
            }
        }
        return best;
    }

    int write(int e, int got) {
        if (!within(e, 0, executors.size() - 1)) {
            return UNKNOWN;
        }
        if (!within(got, 0, 9999)) {
            return OUTSIDE;
        }
        if (book.size() == 20) {
            return FULL;
        }
        book.add(new int[] {e, got});
        return book.size();
    }

    int judge() {
        for (int i = 0; i < book.size(); i++) {
            if (got(book.get(i)[0]) != book.get(i)[1]) {
                return i;
            }
        }
        return NONE;
    }

    int tear() {
        int had = guesses.size() + book.size();
        guesses.clear();
        book.clear();
        return had;
    }

    int seed(int v) {
        if (v < 0) {
            return OUTSIDE;
        }
        int was = (int) seed;
        seed = v;
        return was;
    }

    int keep(int i) {
        if (!within(i, 0, 1)) {
            return UNKNOWN;
        }
        images[i] = now.copy();
        imageSeeds[i] = seed;
        before.clear();
        return 1;
    }

    int goBack(int i) {
        if (!within(i, 0, 1)) {
            return UNKNOWN;
        }
        if (images[i] == null) {
            return NOT;
        }
        now = images[i].copy();
        seed = imageSeeds[i];
        before.clear();
        return 1;
    }
}
