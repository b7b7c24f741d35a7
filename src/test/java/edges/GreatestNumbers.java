/**
 * The greatest GOT and TEARS, 9999. They are far: these runs of calls were looked for among all seeds, so that an
 * object gets there within its 512 calls.
 */
final class GreatestNumbers {
    private static final int MOST_CALLS = 512;
    private static int calls = 0;

    private GreatestNumbers() {
    }

    static void check() {
        tears();
        got();
        Check.sentence = "";
    }

    private static OnionProbate begun(String text) {
        calls = text.length() + 1;
        return Check.of(text);
    }

    private static int counted(int answer) {
        calls++;
        return answer;
    }

    private static void drift(OnionProbate x, int seed, int times, int years) {
        counted(x.seed(seed));
        for (int i = 0; i < times; i++) {
            Check.isSo("drift", counted(x.drift(years)) > 0);
        }
    }

    /** In these 28 YEARS he peels 11 LAYERS that grew above the button, and has 99 TEARS more. */
    private static void tears() {
        Doc.says(0, "his TEARS are its STING and CARED more (9999 at most)");
        OnionProbate x = begun("m0;l4 20;e9 1;");
        for (int i = 1; i <= 100; i++) {
            drift(x, 1404796329, 1, 28);
        }
        // In the first two YEARS there was nothing to lose yet.
        Check.due("TEARS behind 2800 YEARS", counted(x.executor(0, 3)), 9902);
        counted(x.year(2));
        Check.due("and two more", counted(x.executor(0, 3)), 9900);
        for (int i = 1; i <= 8; i++) {
            counted(x.visit());
            counted(x.peel(0));
        }
        Check.due("eight by hand, 11 each", counted(x.executor(0, 3)), 9988);
        counted(x.keep(0));
        counted(x.visit());
        counted(x.peel(0));
        Check.due("just 9999", counted(x.executor(0, 3)), 9999);
        Check.due("DRY IN", counted(x.told(15)), 9999);
        counted(x.visit());
        counted(x.peel(0));
        Check.due("9999 at most", counted(x.executor(0, 3)), 9999);
        counted(x.peel(0));
        Check.due("by CARED alone, too", counted(x.executor(0, 3)), 9999);
        Check.due("DRY IN", counted(x.told(15)), 9999);
        counted(x.year(1));
        Check.due("and less from there", counted(x.executor(0, 3)), 9998);
        counted(x.goBack(0));
        counted(x.visit());
        counted(x.visit());
        counted(x.peel(0));
        Check.due("9988 and 13", counted(x.executor(0, 3)), 9999);
        Check.due("eleven each in 100 drifts, nine and one by hand", counted(x.executor(0, 4)), 1109);
        Check.isSo("within 512 calls: " + calls, calls <= MOST_CALLS);
    }

    /** Each of these makes the LAYERS above the button grow by 20 or, the third, by 31 visits. */
    private static void got() {
        Doc.says(0, "what he GOT is its WORTH more (9999 at most)");
        String order = "abaacbaaccbaaccbaabaaccbaacccbaacccbaabaabaacbaaccccccccbaaccbaaccbaacbaacccbaacbaacccbaaccbaaccbaaccb"
            + "aaccbaaccbaaccbaacbaabaabaaccccbaabaaccccccbaaccbaacccbaabaacccbaacbaabaaccccccbaacbaacbaacccbaaccbabcaa";
        OnionProbate x = begun("m0;l4 20;e0 1;");
        for (char c : order.toCharArray()) {
            switch (c) {
                case 'a': drift(x, 1624050981, 1, 30); break;
                case 'b': drift(x, 705055736, 1, 30); break;
                default: drift(x, 441605900, 2, 30); break;
            }
        }
        Check.due("GOT by then", counted(x.executor(0, 2)), 9986);
        Check.due("WORTH of the next", counted(x.peel(0)), 14);
        Check.due("9999 at most", counted(x.executor(0, 2)), 9999);
        counted(x.peel(0));
        Check.due("with a button's 5, too", counted(x.executor(0, 2)), 9999);
        Check.isSo("within 512 calls: " + calls, calls <= MOST_CALLS);
    }
}
