/** Promises 1 to 8, ordinary use; their edges are in GiversEdgesTest. */
public final class GiversTest {
    public static void main(String[] args) {
        promise1ObjectsShareNothing();
        promise2Give();
        promise3Leave();
        promise3LeaveTakesTheVoteAndKeepsTrust();
        promise4Trust();
        promise4TrustInRows();
        promise5SetPerson();
        promises6And7InAndInByBook();
        promises6And7AfterReleases();
        promise8Total();
        Check.end();
    }

    private static void promise1ObjectsShareNothing() {
        String fresh = Picture.of(new Fund());
        Fund x = Fund.with(5, 5);
        x.fillPot(5);
        x.trust(1, 0);
        x.setPerson(2, 0);
        x.proveAndRelease();
        Check.due("another object is new", fresh, Picture.of(new Fund()));
    }

    private static void promise2Give() {
        Fund x = new Fund();
        Check.due("give(0, 1)", 1, x.give(0, 1));
        Check.due("give(0, 9999)", 10000, x.give(0, 9999));
        Check.due("give(7, 300)", 300, x.give(7, 300));
        Check.due("in(0)", 10000, x.in(0));
        Check.due("in(7)", 300, x.in(7));
        Check.due("in(1)", 0, x.in(1));
    }

    private static void promise3Leave() {
        Fund x = new Fund();
        x.give(5, 70);
        x.give(6, 8);
        Check.due("leave(5)", 70, x.leave(5));
        Check.due("in(5) after", 0, x.in(5));
        Check.due("inByBook(5) after", 0, x.inByBook(5));
        Check.due("in(6) stays", 8, x.in(6));
        Check.due("leave(5) again", 0, x.leave(5));
        Check.due("inByBook(5) after both", 0, x.inByBook(5));
        Check.due("total after", 8, x.total());
        Check.due("nothing went out", 0, x.out());
    }

    private static void promise3LeaveTakesTheVoteAndKeepsTrust() {
        Fund x = Fund.with(10, 0, 10);
        x.setPerson(1, 4);
        x.trust(0, 1);
        x.trust(1, 2);
        x.vote(0, Quorumfund.NO);
        x.vote(1, Quorumfund.YES);
        x.vote(2, Quorumfund.NO);
        x.leave(1);
        Check.due("its vote is gone", Quorumfund.SILENT, x.vote(1, Quorumfund.SILENT));
        Check.due("the vote before it stays", Quorumfund.NO, x.vote(0, Quorumfund.SILENT));
        Check.due("who trusts it goes on over it", 2, x.speaker(0));
        Check.due("whom it trusts stays", 2, x.trust(1, 2));
        Check.due("who trusts it stays", 1, x.trust(0, 1));
        Check.due("its person stays", 4, x.setPerson(1, 4));
    }

    private static void promise4Trust() {
        Fund x = new Fund();
        Check.due("trust(0, 7)", Quorumfund.NONE, x.trust(0, 7));
        Check.due("trust(0, 1)", 7, x.trust(0, 1));
        Check.due("trust(0, 1) again", 1, x.trust(0, 1));
        Check.due("trust(0, NONE)", 1, x.trust(0, Quorumfund.NONE));
        Check.due("trust(0, NONE) again", Quorumfund.NONE, x.trust(0, Quorumfund.NONE));
        Check.due("trust(7, 0)", Quorumfund.NONE, x.trust(7, 0));
        Check.due("trust(7, NONE)", 0, x.trust(7, Quorumfund.NONE));
    }

    private static void promise4TrustInRows() {
        Fund x = new Fund();
        x.trust(0, 1);
        x.trust(1, 2);
        Check.due("many may trust one", Quorumfund.NONE, x.trust(3, 2));
        Check.due("in place of another one", 1, x.trust(0, 3));
        Check.due("the old row is gone", Quorumfund.NONE, x.trust(2, 4));
        Check.due("a row may turn round", 3, x.trust(0, Quorumfund.NONE));
        Check.due("and then", Quorumfund.NONE, x.trust(4, 0));
        Check.due("its own old trust does not hinder", 2, x.trust(1, 4));
    }

    private static void promise5SetPerson() {
        Fund x = new Fund();
        Check.due("setPerson(0, 7)", 0, x.setPerson(0, 7));
        Check.due("setPerson(0, 7) again", 7, x.setPerson(0, 7));
        Check.due("setPerson(0, 0)", 7, x.setPerson(0, 0));
        Check.due("setPerson(7, 0)", 7, x.setPerson(7, 0));
        Check.due("setPerson(7, 3)", 0, x.setPerson(7, 3));
        Check.due("the others keep theirs", 3, x.setPerson(3, 3));
    }

    private static void promises6And7InAndInByBook() {
        Fund x = new Fund();
        x.give(0, 30);
        x.give(0, 40);
        x.give(7, 5);
        Check.due("in(0)", 70, x.in(0));
        Check.due("inByBook(0)", 70, x.inByBook(0));
        x.leave(0);
        x.give(0, 9);
        Check.due("in(0) after coming back", 9, x.in(0));
        Check.due("inByBook(0) after coming back", 9, x.inByBook(0));
        Check.due("in(7)", 5, x.in(7));
        Check.due("inByBook(7)", 5, x.inByBook(7));
    }

    private static void promises6And7AfterReleases() {
        Fund x = Fund.with(60, 100, 50);
        x.fillPot(1000);
        x.proveAndRelease();
        x.addMilestone(60);
        x.proveAndRelease();
        Check.due("in(0) after two releases", 20, x.in(0));
        Check.due("inByBook(0) after two releases", 20, x.inByBook(0));
        Check.due("in(1) after two releases", 10, x.in(1));
        Check.due("inByBook(1) after two releases", 10, x.inByBook(1));
        Check.due("leave(0) gives what is left", 20, x.leave(0));
        Check.due("inByBook(0) at last", 0, x.inByBook(0));
    }

    private static void promise8Total() {
        Fund x = new Fund();
        for (int giver = 0; giver < 8; giver++) {
            x.give(giver, 1 << giver);
        }
        Check.due("total of all", 255, x.total());
        x.leave(0);
        Check.due("total without the first", 254, x.total());
        x.leave(7);
        Check.due("total without the last", 126, x.total());
        x.fillPot(1000);
        Check.due("the pot is not in the total", 126, x.total());
        x.addMilestone(26);
        x.proveAndRelease();
        Check.due("total after a release", 100, x.total());
    }
}
