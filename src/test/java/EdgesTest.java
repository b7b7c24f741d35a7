/** Each sentence of the document that names a boundary: the last input on this side of it, the first one beyond. */
public final class EdgesTest {
    private EdgesTest() {
    }

    public static void main(String[] args) {
        refusals();
        TextEdges.check();
        ToldEdges.check();
        DeedEdges.check();
        TrialEdges.check();
        KeptEdges.check();
        GreatestNumbers.check();
        Doc.everyBoundaryIsNamed();
        Check.end();
    }

    private static void refusals() {
        Doc.says(0, "NONE is -1. REFUSALS, of several the first in this order: UNKNOWN (a LAYER, EXECUTOR, TYPE, IMAGE that "
            + "there is not; one twice, where two are asked), OUTSIDE (another number out of its bounds), NOT (not now, as "
            + "told), FULL. They are far below all that is counted: -1000000001 and on.");
        Check.due("NONE", OnionProbate.NONE, -1);
        int[] refusals = {OnionProbate.UNKNOWN, OnionProbate.OUTSIDE, OnionProbate.NOT, OnionProbate.FULL};
        for (int i = 0; i < refusals.length; i++) {
            Check.due("refusal " + i, refusals[i], -1000000001 - i);
        }
    }
}
