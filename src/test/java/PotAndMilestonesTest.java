/** Promises 9 to 13, ordinary use; their edges are in PotAndMilestonesEdgesTest. */
public final class PotAndMilestonesTest {
    public static void main(String[] args) {
        promises9And10Pot();
        promise11AddMilestone();
        promise12Prove();
        promise13Current();
        promise13OneAtATime();
        Check.end();
    }

    private static void promises9And10Pot() {
        Fund x = new Fund();
        Check.due("pot()", 0, x.pot());
        Check.due("fillPot(20)", 20, x.fillPot(20));
        Check.due("fillPot(5)", 25, x.fillPot(5));
        Check.due("pot()", 25, x.pot());
        Check.due("the pot is nobody's", 0, x.total());
    }

    private static void promise11AddMilestone() {
        Fund x = new Fund();
        Check.due("the first", 0, x.addMilestone(40));
        Check.due("the second", 1, x.addMilestone(30));
        Check.due("it begins unproved", true, x.prove(1));
        Check.due("it begins unreleased", 0, x.current());
    }

    private static void promise12Prove() {
        Fund x = new Fund();
        x.addMilestones(6, 1);
        Check.due("prove(0)", true, x.prove(0));
        Check.due("prove(5)", true, x.prove(5));
        Check.due("prove(0) again", false, x.prove(0));
        Check.due("prove(5) again", false, x.prove(5));
        Check.due("prove(5) a third time", true, x.prove(5));
        Check.due("prove(4) is its own", true, x.prove(4));
    }

    private static void promise13Current() {
        Fund x = new Fund();
        x.give(0, 100);
        for (int milestone = 0; milestone < 6; milestone++) {
            x.addMilestone(1);
            Check.due("the lowest", 0, x.current());
        }
        x.prove(3);
        Check.due("a proof does not move it", 0, x.current());
        for (int milestone = 0; milestone < 6; milestone++) {
            Check.due("one after the other", milestone, x.current());
            if (milestone != 3) {
                x.prove(milestone);
            }
            x.voteYesAndRelease();
        }
        Check.due("after all", Quorumfund.NONE, x.current());
    }

    private static void promise13OneAtATime() {
        Fund x = Fund.with(1, 100);
        x.proveAndRelease();
        Check.due("none left", Quorumfund.NONE, x.current());
        x.addMilestone(1);
        Check.due("a new one", 1, x.current());
    }
}
