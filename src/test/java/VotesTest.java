/** Promises 14 to 16, ordinary use; their edges are in VotesEdgesTest. */
public final class VotesTest {
    public static void main(String[] args) {
        promise14Vote();
        promise15Speaker();
        promise15SpeakerOverTrustMadeLater();
        promise16Weight();
        Check.end();
    }

    private static void promise14Vote() {
        Fund x = Fund.with(10);
        Check.due("vote(0, YES)", Quorumfund.SILENT, x.vote(0, Quorumfund.YES));
        Check.due("vote(0, NO)", Quorumfund.YES, x.vote(0, Quorumfund.NO));
        Check.due("vote(0, NO) again", Quorumfund.NO, x.vote(0, Quorumfund.NO));
        Check.due("vote(0, SILENT)", Quorumfund.NO, x.vote(0, Quorumfund.SILENT));
        Check.due("vote(0, SILENT) again", Quorumfund.SILENT, x.vote(0, Quorumfund.SILENT));
        Check.due("vote(7, NO)", Quorumfund.SILENT, x.vote(7, Quorumfund.NO));
        Check.due("vote(7, YES)", Quorumfund.NO, x.vote(7, Quorumfund.YES));
    }

    private static void promise15Speaker() {
        Fund x = Fund.with(1);
        x.trust(0, 1);
        x.trust(1, 2);
        x.trust(7, 1);
        Check.due("nobody has voted", Quorumfund.NONE, x.speaker(0));
        x.vote(2, Quorumfund.NO);
        Check.due("over two", 2, x.speaker(0));
        Check.due("over one", 2, x.speaker(1));
        Check.due("over two, from another", 2, x.speaker(7));
        Check.due("itself", 2, x.speaker(2));
        Check.due("without trust", Quorumfund.NONE, x.speaker(3));
        x.vote(1, Quorumfund.YES);
        Check.due("the first one", 1, x.speaker(0));
        x.vote(0, Quorumfund.YES);
        Check.due("itself first", 0, x.speaker(0));
        x.vote(1, Quorumfund.SILENT);
        Check.due("a vote taken back", 2, x.speaker(7));
    }

    private static void promise15SpeakerOverTrustMadeLater() {
        Fund x = Fund.with(1);
        x.vote(5, Quorumfund.NO);
        x.trust(4, 5);
        Check.due("trust after the vote", 5, x.speaker(4));
        x.trust(4, Quorumfund.NONE);
        Check.due("trust taken away", Quorumfund.NONE, x.speaker(4));
        Check.due("the trusted does not hear the one who trusts", 5, x.speaker(5));
    }

    private static void promise16Weight() {
        Fund x = Fund.with(1, 1, 2, 4, 8, 16, 32, 64, 128);
        Check.due("no yes", 0, x.weight(Quorumfund.YES));
        Check.due("no no", 0, x.weight(Quorumfund.NO));
        x.vote(0, Quorumfund.YES);
        x.vote(7, Quorumfund.NO);
        x.trust(1, 0);
        x.trust(2, 1);
        x.trust(6, 7);
        Check.due("yes over rows", 7, x.weight(Quorumfund.YES));
        Check.due("no over rows", 192, x.weight(Quorumfund.NO));
        x.vote(1, Quorumfund.NO);
        Check.due("yes without them", 1, x.weight(Quorumfund.YES));
        Check.due("no with them", 198, x.weight(Quorumfund.NO));
        x.leave(1);
        Check.due("yes after leaving", 5, x.weight(Quorumfund.YES));
        Check.due("no after leaving", 192, x.weight(Quorumfund.NO));
    }
}
