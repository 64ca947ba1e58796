/** Promises 9 to 13. */
public final class PotAndMilestonesTest {
    private static final Class<IndexOutOfBoundsException> NO_SUCH = IndexOutOfBoundsException.class;
    private static final Class<IllegalArgumentException> BAD = IllegalArgumentException.class;
    private static final Class<IllegalStateException> STATE = IllegalStateException.class;

    public static void main(String[] args) {
        promises9And10Pot();
        promise9Refusals();
        promise11AddMilestone();
        promise11Refusals();
        promise12Prove();
        promise12Refusals();
        promise13Current();
        Check.end();
    }

    private static void promises9And10Pot() {
        Quorumfund x = new Quorumfund();
        Check.due("pot()", 0, x.pot());
        Check.due("fillPot(1)", 1, x.fillPot(1));
        Check.due("fillPot(100000)", 100001, x.fillPot(100000));
        Check.due("pot()", 100001, x.pot());
        Check.due("the pot is nobody's", 0, x.total());
    }

    private static void promise9Refusals() {
        Quorumfund x = new Quorumfund();
        int[] bad = {0, -1, 100001, Integer.MIN_VALUE, Integer.MAX_VALUE};
        for (int amount : bad) {
            Check.refused(x, "fillPot(" + amount + ")", BAD, () -> x.fillPot(amount));
        }
        for (int i = 0; i < 9; i++) {
            x.fillPot(100000);
        }
        x.fillPot(99999);
        Check.refused(x, "one too much", STATE, () -> x.fillPot(2));
        Check.due("up to the most", 1000000, x.fillPot(1));
        Check.refused(x, "above the most", STATE, () -> x.fillPot(1));
        Check.refused(x, "far above the most", STATE, () -> x.fillPot(100000));
        for (int amount : bad) {
            Check.refused(x, "amount before state: " + amount, BAD, () -> x.fillPot(amount));
        }
    }

    private static void promise11AddMilestone() {
        Quorumfund x = new Quorumfund();
        Check.due("addMilestone(1)", 0, x.addMilestone(1));
        Check.due("addMilestone(100000)", 1, x.addMilestone(100000));
        Check.due("it begins unproved", true, x.prove(1));
        for (int milestone = 2; milestone < 6; milestone++) {
            Check.due("the next number", milestone, x.addMilestone(5));
        }
    }

    private static void promise11Refusals() {
        Quorumfund x = new Quorumfund();
        int[] bad = {0, -1, 100001, Integer.MIN_VALUE, Integer.MAX_VALUE};
        for (int amount : bad) {
            Check.refused(x, "addMilestone(" + amount + ")", BAD, () -> x.addMilestone(amount));
        }
        for (int milestone = 0; milestone < 6; milestone++) {
            x.addMilestone(1);
        }
        Check.refused(x, "a seventh", STATE, () -> x.addMilestone(1));
        for (int amount : bad) {
            Check.refused(x, "amount before state: " + amount, BAD, () -> x.addMilestone(amount));
        }
        x.give(0, 6);
        x.vote(0, Quorumfund.YES);
        x.prove(0);
        x.release();
        Check.refused(x, "a released one counts", STATE, () -> x.addMilestone(1));
    }

    private static void promise12Prove() {
        Quorumfund x = new Quorumfund();
        for (int milestone = 0; milestone < 6; milestone++) {
            x.addMilestone(1);
        }
        Check.due("prove(0)", true, x.prove(0));
        Check.due("prove(5)", true, x.prove(5));
        Check.due("prove(0) again", false, x.prove(0));
        Check.due("prove(5) again", false, x.prove(5));
        Check.due("prove(5) a third time", true, x.prove(5));
        Check.due("prove(4) is its own", true, x.prove(4));
    }

    private static void promise12Refusals() {
        Quorumfund x = new Quorumfund();
        int[] none = {-1, 2, 5, 6, 7, Integer.MIN_VALUE, Integer.MAX_VALUE};
        x.addMilestone(1);
        x.addMilestone(1);
        for (int milestone : none) {
            Check.refused(x, "prove(" + milestone + ")", NO_SUCH, () -> x.prove(milestone));
        }
        x.give(0, 2);
        x.vote(0, Quorumfund.YES);
        x.prove(0);
        x.release();
        Check.refused(x, "a released one", STATE, () -> x.prove(0));
        Check.due("the next one", true, x.prove(1));
        x.vote(0, Quorumfund.YES);
        x.release();
        Check.refused(x, "the first of two", STATE, () -> x.prove(0));
        Check.refused(x, "the last released", STATE, () -> x.prove(1));
        for (int milestone : none) {
            Check.refused(x, "prove(" + milestone + ") after", NO_SUCH, () -> x.prove(milestone));
        }
    }

    private static void promise13Current() {
        Quorumfund x = new Quorumfund();
        Check.due("at first", Quorumfund.NONE, x.current());
        x.give(0, 100);
        for (int milestone = 0; milestone < 6; milestone++) {
            x.addMilestone(1);
            Check.due("the lowest", 0, x.current());
        }
        x.prove(3);
        Check.due("a proof does not move it", 0, x.current());
        for (int milestone = 0; milestone < 6; milestone++) {
            Check.due("one after the other", milestone, x.current());
            x.vote(0, Quorumfund.YES);
            if (milestone != 3) {
                x.prove(milestone);
            }
            x.release();
        }
        Check.due("after all", Quorumfund.NONE, x.current());
        oneAtATime();
    }

    private static void oneAtATime() {
        Quorumfund x = new Quorumfund();
        x.give(0, 100);
        x.addMilestone(1);
        x.vote(0, Quorumfund.YES);
        x.prove(0);
        x.release();
        Check.due("none left", Quorumfund.NONE, x.current());
        x.addMilestone(1);
        Check.due("a new one", 1, x.current());
    }
}
