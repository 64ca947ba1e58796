/** Promises 14 to 16. */
public final class VotesTest {
    private static final Class<IndexOutOfBoundsException> NO_SUCH = IndexOutOfBoundsException.class;
    private static final Class<IllegalArgumentException> BAD = IllegalArgumentException.class;
    private static final Class<IllegalStateException> STATE = IllegalStateException.class;
    private static final int[] NO_GIVERS = {-1, 8, Integer.MIN_VALUE, Integer.MAX_VALUE};
    private static final int[] NO_VOTES = {-1, 3, Integer.MIN_VALUE, Integer.MAX_VALUE};

    public static void main(String[] args) {
        promise14Vote();
        promise14Refusals();
        promise14VotesAreGoneAfterRelease();
        promise15Speaker();
        promise15SpeakerOverTrustMadeLater();
        promise16Weight();
        promise16Refusals();
        Check.end();
    }

    private static void promise14Vote() {
        Quorumfund x = new Quorumfund();
        x.addMilestone(10);
        Check.due("vote(0, YES)", Quorumfund.SILENT, x.vote(0, Quorumfund.YES));
        Check.due("vote(0, NO)", Quorumfund.YES, x.vote(0, Quorumfund.NO));
        Check.due("vote(0, NO) again", Quorumfund.NO, x.vote(0, Quorumfund.NO));
        Check.due("vote(0, SILENT)", Quorumfund.NO, x.vote(0, Quorumfund.SILENT));
        Check.due("vote(0, SILENT) again", Quorumfund.SILENT, x.vote(0, Quorumfund.SILENT));
        Check.due("vote(7, NO)", Quorumfund.SILENT, x.vote(7, Quorumfund.NO));
        Check.due("vote(7, YES)", Quorumfund.NO, x.vote(7, Quorumfund.YES));
    }

    private static void promise14Refusals() {
        Quorumfund x = new Quorumfund();
        refusals(x);
        for (int vote = 0; vote <= 2; vote++) {
            int one = vote;
            Check.refused(x, "no milestone, vote " + one, STATE, () -> x.vote(0, one));
        }
        x.addMilestone(1);
        refusals(x);
        x.give(0, 1);
        x.vote(0, Quorumfund.YES);
        x.prove(0);
        x.release();
        refusals(x);
        Check.refused(x, "all released", STATE, () -> x.vote(0, Quorumfund.YES));
    }

    private static void refusals(Quorumfund x) {
        for (int giver : NO_GIVERS) {
            Check.refused(x, "vote: no giver " + giver, NO_SUCH, () -> x.vote(giver, Quorumfund.YES));
            Check.refused(x, "vote: no giver first " + giver, NO_SUCH, () -> x.vote(giver, 3));
        }
        for (int vote : NO_VOTES) {
            Check.refused(x, "vote: no vote " + vote, BAD, () -> x.vote(0, vote));
        }
    }

    private static void promise14VotesAreGoneAfterRelease() {
        Quorumfund x = new Quorumfund();
        x.addMilestone(1);
        x.addMilestone(1);
        x.give(0, 10);
        for (int giver = 0; giver < 8; giver++) {
            x.vote(giver, giver % 2 == 0 ? Quorumfund.YES : Quorumfund.NO);
        }
        x.prove(0);
        x.release();
        for (int giver = 0; giver < 8; giver++) {
            Check.due("the speaker is gone", Quorumfund.NONE, x.speaker(giver));
            Check.due("the vote is gone", Quorumfund.SILENT, x.vote(giver, Quorumfund.SILENT));
        }
    }

    private static void promise15Speaker() {
        Quorumfund x = new Quorumfund();
        x.addMilestone(1);
        x.trust(0, 1);
        x.trust(1, 2);
        x.trust(7, 1);
        Check.due("nobody has voted", Quorumfund.NONE, x.speaker(0));
        x.vote(2, Quorumfund.NO);
        Check.due("over two", 2, x.speaker(0));
        Check.due("over one", 2, x.speaker(1));
        Check.due("over two, from another", 2, x.speaker(7));
        Check.due("itself", 2, x.speaker(2));
        Check.due("without trust", Quorumfund.NONE, x.speaker(3));
        x.vote(1, Quorumfund.YES);
        Check.due("the first one", 1, x.speaker(0));
        x.vote(0, Quorumfund.YES);
        Check.due("itself first", 0, x.speaker(0));
        x.vote(1, Quorumfund.SILENT);
        Check.due("a vote taken back", 2, x.speaker(7));
        for (int giver : NO_GIVERS) {
            Check.refused(x, "speaker: no giver " + giver, NO_SUCH, () -> x.speaker(giver));
        }
    }

    private static void promise15SpeakerOverTrustMadeLater() {
        Quorumfund x = new Quorumfund();
        x.addMilestone(1);
        x.vote(5, Quorumfund.NO);
        x.trust(4, 5);
        Check.due("trust after the vote", 5, x.speaker(4));
        x.trust(4, Quorumfund.NONE);
        Check.due("trust taken away", Quorumfund.NONE, x.speaker(4));
        Check.due("the trusted does not hear the one who trusts", 5, x.speaker(5));
    }

    private static void promise16Weight() {
        Quorumfund x = new Quorumfund();
        x.addMilestone(1);
        for (int giver = 0; giver < 8; giver++) {
            x.give(giver, 1 << giver);
        }
        Check.due("no yes", 0, x.weight(Quorumfund.YES));
        Check.due("no no", 0, x.weight(Quorumfund.NO));
        x.vote(0, Quorumfund.YES);
        x.vote(7, Quorumfund.NO);
        x.trust(1, 0);
        x.trust(2, 1);
        x.trust(6, 7);
        Check.due("yes over rows", 7, x.weight(Quorumfund.YES));
        Check.due("no over rows", 192, x.weight(Quorumfund.NO));
        x.vote(1, Quorumfund.NO);
        Check.due("yes without them", 1, x.weight(Quorumfund.YES));
        Check.due("no with them", 198, x.weight(Quorumfund.NO));
        x.leave(1);
        Check.due("yes after leaving", 5, x.weight(Quorumfund.YES));
        Check.due("no after leaving", 192, x.weight(Quorumfund.NO));
    }

    private static void promise16Refusals() {
        Quorumfund x = new Quorumfund();
        Check.refused(x, "weight(SILENT)", BAD, () -> x.weight(Quorumfund.SILENT));
        for (int vote : NO_VOTES) {
            Check.refused(x, "weight(" + vote + ")", BAD, () -> x.weight(vote));
        }
    }
}
