import java.util.Arrays;
import java.util.Random;

/** What is TRIED, held against what comes of it if it is done, by the deeds of objects with the same text. */
final class ByDoing {
    private static final int NONE = OnionProbate.NONE;
    private static final int TEXTS = 60;

    private ByDoing() {
    }

    static void check() {
        for (int i = 0; i < TEXTS; i++) {
            Random random = new Random(i);
            String text = text(random, 12, 5);
            worthIt(text);
            parts(text);
            twoSides(text);
            dryIn(text, random);
            byDraws(text, random);
            byTurns(text(random, 8, 5));
            // A button's 5 would go to him who took the one ahead, and that is no WORTH.
            fair(text(random, 12, 4));
        }
        Check.sentence = "";
    }

    /** Few enough layers, of so many kinds, and one to four executors. */
    private static String text(Random random, int mostLayers, int kinds) {
        StringBuilder s = new StringBuilder("m").append(random.nextInt(100)).append(';');
        for (int i = random.nextInt(mostLayers + 1); i > 0; i--) {
            s.append('l').append(random.nextInt(kinds)).append(' ').append(1 + random.nextInt(20)).append(';');
        }
        for (int i = 1 + random.nextInt(4); i > 0; i--) {
            s.append('e').append(random.nextInt(3)).append(' ').append(1 + random.nextInt(9)).append(';');
        }
        return s.toString();
    }

    private static void worthIt(String text) {
        Doc.says(0, "WORTH IT: how many LAYERS an EXECUTOR should peel, one behind the other, ");
        for (int e = 0; e < Check.of(text).told(2); e++) {
            OnionProbate x = Check.of(text);
            int many = x.worthIt(e, 0);
            int much = x.worthIt(e, 1);
            int best = 0;
            int most = 0;
            for (int n = 1; x.peel(e) >= 0; n++) {
                int gain = x.executor(e, 2) - x.executor(e, 3);
                if (gain > most) {
                    most = gain;
                    best = n;
                }
            }
            Check.due("how many by " + e + " of " + text, many, best);
            Check.due("how much by " + e + " of " + text, much, most + 1000);
        }
    }

    private static void parts(String text) {
        Doc.says(0, "PARTS: all LAYERS are parted into n parts (1 .. 5), one behind the other");
        OnionProbate x = Check.of(text);
        int[] stings = stings(text);
        int layers = stings.length;
        for (int n = 1; n <= 5; n++) {
            int least = Integer.MAX_VALUE;
            int first = NONE;
            // Bit k: a part ends behind layer k. The last part ends behind the last layer.
            for (int ends = 0; ends < 1 << Math.max(0, layers - 1); ends++) {
                if (layers > 0 && Integer.bitCount(ends) == n - 1) {
                    int greatest = greatestSting(stings, ends);
                    int size = ends == 0 ? layers : Integer.numberOfTrailingZeros(ends) + 1;
                    if (greatest < least || greatest == least && size < first) {
                        least = greatest;
                        first = size;
                    }
                }
            }
            Doc.says(0, "so that the greatest STING of a part is least: how much;");
            Check.due("parts(" + n + ", 0) of " + text, x.parts(n, 0), first == NONE ? NONE : least);
            Check.due("parts(" + n + ", 1) of " + text, x.parts(n, 1), first);
        }
    }

    private static int greatestSting(int[] stings, int ends) {
        int greatest = 0;
        int sting = 0;
        for (int k = 0; k < stings.length; k++) {
            sting += stings[k];
            greatest = Math.max(greatest, sting);
            if ((ends & 1 << k) != 0) {
                sting = 0;
            }
        }
        return greatest;
    }

    /** STING of each layer, as the text tells it. */
    private static int[] stings(String text) {
        return Arrays.stream(text.split(";")).filter(s -> s.startsWith("l")).mapToInt(s -> {
            int kind = s.charAt(1) - '0';
            int thick = Integer.parseInt(s.substring(3));
            return kind == 4 ? 0 : kind == 2 ? 2 * thick : thick;
        }).toArray();
    }

    private static void byTurns(String text) {
        Doc.says(0, ", who is first has so much more WORTH than the other at last, if each does his best for that: "
            + "how much, and 1000; how many the first should peel first");
        OnionProbate x = Check.of(text);
        int much = x.byTurns(0);
        int first = x.byTurns(1);
        int one = more(x, 1);
        int two = more(x, 2);
        Check.due("how much of " + text, much, x.told(1) == 0 ? 1000 : 1000 + Math.max(one, two));
        Check.due("how many first of " + text, first, x.told(1) == 0 ? 0 : two > one ? 2 : 1);
    }

    /** How much more he has, in the end, who peels so many now; far too little, if there are not so many. */
    private static int more(OnionProbate x, int peels) {
        int layers = x.told(1);
        if (layers < peels) {
            return -9999;
        }
        int worth = x.peel(0);
        if (peels == 2) {
            worth += x.peel(0);
        }
        if (layers > peels) {
            worth -= Math.max(more(x, 1), more(x, 2));
        }
        x.undo(peels);
        return worth;
    }

    private static void twoSides(String text) {
        Doc.says(0, "FROM TWO SIDES: by turns one LAYER each, the first from the outside, the other from the inside;");
        OnionProbate x = Check.of(text);
        boolean[] gone = new boolean[x.told(1)];
        int[] worth = new int[2];
        int last = NONE;
        for (int turn = 0; turn < gone.length; turn++) {
            int k = turn % 2 == 0 ? 0 : gone.length - 1;
            while (gone[k]) {
                k += turn % 2 == 0 ? 1 : -1;
            }
            gone[k] = true;
            worth[turn % 2] += x.layer(k, 2);
            last = k;
        }
        Check.due("the first's of " + text, x.twoSides(0), worth[0]);
        Check.due("the other's of " + text, x.twoSides(1), worth[1]);
        Check.due("the last of " + text, x.twoSides(2), last);
    }

    private static void fair(String text) {
        Doc.says(0, "FAIR: the LAYERS, the outmost first, are taken one by one, ");
        Doc.says(0, ": who takes a LAYER; ENVY then.");
        OnionProbate x = Check.of(text);
        OnionProbate y = Check.of(text);
        for (int k = 0; k < x.told(1); k++) {
            int least = 0;
            for (int e = 1; e < y.told(2); e++) {
                least = y.executor(e, 2) < y.executor(least, 2) ? e : least;
            }
            Check.due("fair(" + k + ") of " + text, x.fair(k), least);
            y.peel(least);
            // From here on it must come to the same.
            Check.due("ENVY then, behind " + k + " of " + text, y.fair(NONE), x.fair(NONE));
        }
        Check.due("ENVY then of " + text, x.fair(NONE), y.told(13));
    }

    private static void dryIn(String text, Random random) {
        Doc.says(0, "DRY IN: behind how many YEARS nobody has TEARS (0 .. 9999).");
        OnionProbate x = Check.of(text);
        for (int i = 0; i < 5; i++) {
            x.peel(random.nextInt(x.told(2)));
        }
        int dryIn = x.told(15);
        int years = 0;
        while (x.executor(x.told(14), 3) > 0) {
            years = x.year(1);
        }
        Check.due("DRY IN of " + text, dryIn, years);
        Check.due("dry now", x.told(15), 0);
    }

    private static int draw(long[] seed, int n) {
        seed[0] = (seed[0] * 1103515245L + 12345L) % (1L << 31);
        return (int) (seed[0] / 65536 % n);
    }

    private static void byDraws(String text, Random random) {
        Doc.says(0, "BY DRAWS: THE SEED");
        OnionProbate x = Check.of(text);
        OnionProbate y = Check.of(text);
        long[] seed = {random.nextInt(Integer.MAX_VALUE)};
        x.seed((int) seed[0]);
        int years = 1 + random.nextInt(30);
        Check.due("drift(" + years + ") of " + text, x.drift(years), years);
        for (int i = 0; i < years; i++) {
            switch (draw(seed, 6)) {
                case 0:
                case 1: y.peel(draw(seed, y.told(2))); break;
                case 2: y.visit(); break;
                case 3: y.stop(y.told(6) == 0); break;
                default: break;
            }
            y.year(1);
        }
        for (int what = 0; what < 19; what++) {
            Check.due("by hand: told(" + what + ") of " + text, x.told(what), y.told(what));
        }
        for (int e = 0; e < x.told(2); e++) {
            Check.due("by hand: GOT of " + text, x.executor(e, 2), y.executor(e, 2));
            Check.due("by hand: TEARS of " + text, x.executor(e, 3), y.executor(e, 3));
        }
        Check.due("THE SEED", x.seed(0), (int) seed[0]);
        Check.due("undone", x.undo(years), 0);
        Check.due("as ahead of them", x.told(8), Check.of(text).told(8));
    }
}
