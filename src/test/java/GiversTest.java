/** Promises 1 to 8. */
public final class GiversTest {
    private static final Class<IndexOutOfBoundsException> NO_SUCH = IndexOutOfBoundsException.class;
    private static final Class<IllegalArgumentException> BAD = IllegalArgumentException.class;
    private static final Class<IllegalStateException> STATE = IllegalStateException.class;
    private static final int[] NO_GIVERS = {-1, 8, -2, 9, Integer.MIN_VALUE, Integer.MAX_VALUE};

    public static void main(String[] args) {
        promise1NewObject();
        promise1ObjectsShareNothing();
        promise2Give();
        promise2GiveUpToTheMost();
        promise2GiveRefusals();
        promise3Leave();
        promise3LeaveTakesTheVoteAndKeepsTrust();
        promise4Trust();
        promise4TrustInRows();
        promise4LongestRow();
        promise4TrustRefusals();
        promise5SetPerson();
        promises6And7InAndInByBook();
        promises6And7AfterReleases();
        promise8Total();
        Check.end();
    }

    private static void promise1NewObject() {
        Quorumfund x = new Quorumfund();
        for (int giver = 0; giver < 8; giver++) {
            Check.due("new: in", 0, x.in(giver));
            Check.due("new: inByBook", 0, x.inByBook(giver));
            Check.due("new: speaker", Quorumfund.NONE, x.speaker(giver));
            Check.due("new: person", giver, x.setPerson(giver, giver));
            Check.due("new: trust", Quorumfund.NONE, x.trust(giver, Quorumfund.NONE));
            Check.due("new: leave", 0, x.leave(giver));
        }
        Check.due("new: total", 0, x.total());
        Check.due("new: pot", 0, x.pot());
        Check.due("new: out", 0, x.out());
        Check.due("new: current", Quorumfund.NONE, x.current());
        Check.due("new: yes", 0, x.weight(Quorumfund.YES));
        Check.due("new: no", 0, x.weight(Quorumfund.NO));
        Check.refused(x, "new: prove(0)", NO_SUCH, () -> x.prove(0));
    }

    private static void promise1ObjectsShareNothing() {
        String fresh = Picture.of(new Quorumfund());
        Quorumfund x = new Quorumfund();
        x.give(0, 5);
        x.fillPot(5);
        x.addMilestone(5);
        x.vote(0, Quorumfund.YES);
        x.trust(1, 0);
        x.prove(0);
        x.release();
        Check.due("another object is new", fresh, Picture.of(new Quorumfund()));
    }

    private static void promise2Give() {
        Quorumfund x = new Quorumfund();
        Check.due("give(0, 1)", 1, x.give(0, 1));
        Check.due("give(0, 10000)", 10001, x.give(0, 10000));
        Check.due("give(7, 10000)", 10000, x.give(7, 10000));
        Check.due("in(0)", 10001, x.in(0));
        Check.due("in(7)", 10000, x.in(7));
        Check.due("in(1)", 0, x.in(1));
    }

    private static void promise2GiveUpToTheMost() {
        Quorumfund x = new Quorumfund();
        for (int i = 1; i <= 9; i++) {
            Check.due("give on", i * 10000, x.give(3, 10000));
        }
        x.give(3, 9999);
        Check.refused(x, "one too much", STATE, () -> x.give(3, 2));
        Check.refused(x, "far too much", STATE, () -> x.give(3, 10000));
        Check.due("up to the most", 100000, x.give(3, 1));
        Check.refused(x, "above the most", STATE, () -> x.give(3, 1));
        Check.due("the limit is each giver's own", 1, x.give(4, 1));
        x.leave(3);
        Check.due("give after leaving", 10000, x.give(3, 10000));
    }

    private static void promise2GiveRefusals() {
        Quorumfund x = new Quorumfund();
        for (int i = 0; i < 10; i++) {
            x.give(2, 10000);
        }
        for (int giver : NO_GIVERS) {
            Check.refused(x, "give: no giver " + giver, NO_SUCH, () -> x.give(giver, 1));
            Check.refused(x, "give: no giver first " + giver, NO_SUCH, () -> x.give(giver, 0));
        }
        for (int amount : new int[] {0, -1, 10001, Integer.MIN_VALUE, Integer.MAX_VALUE}) {
            Check.refused(x, "give: amount " + amount, BAD, () -> x.give(0, amount));
            Check.refused(x, "give: amount before state " + amount, BAD, () -> x.give(2, amount));
        }
    }

    private static void promise3Leave() {
        Quorumfund x = new Quorumfund();
        x.give(5, 70);
        x.give(6, 8);
        Check.due("leave(5)", 70, x.leave(5));
        Check.due("in(5) after", 0, x.in(5));
        Check.due("inByBook(5) after", 0, x.inByBook(5));
        Check.due("in(6) stays", 8, x.in(6));
        Check.due("leave(5) again", 0, x.leave(5));
        Check.due("inByBook(5) after both", 0, x.inByBook(5));
        Check.due("total after", 8, x.total());
        Check.due("nothing went out", 0, x.out());
        Check.due("leave(7)", 0, x.leave(7));
        for (int giver : NO_GIVERS) {
            Check.refused(x, "leave: no giver " + giver, NO_SUCH, () -> x.leave(giver));
        }
    }

    private static void promise3LeaveTakesTheVoteAndKeepsTrust() {
        Quorumfund x = new Quorumfund();
        x.addMilestone(10);
        x.give(1, 10);
        x.setPerson(1, 4);
        x.trust(0, 1);
        x.trust(1, 2);
        x.vote(0, Quorumfund.NO);
        x.vote(1, Quorumfund.YES);
        x.vote(2, Quorumfund.NO);
        x.leave(1);
        Check.due("its vote is gone", Quorumfund.SILENT, x.vote(1, Quorumfund.SILENT));
        Check.due("the vote before it stays", Quorumfund.NO, x.vote(0, Quorumfund.SILENT));
        Check.due("who trusts it goes on over it", 2, x.speaker(0));
        Check.due("whom it trusts stays", 2, x.trust(1, 2));
        Check.due("who trusts it stays", 1, x.trust(0, 1));
        Check.due("its person stays", 4, x.setPerson(1, 4));
    }

    private static void promise4Trust() {
        Quorumfund x = new Quorumfund();
        Check.due("trust(0, 7)", Quorumfund.NONE, x.trust(0, 7));
        Check.due("trust(0, 1)", 7, x.trust(0, 1));
        Check.due("trust(0, 1) again", 1, x.trust(0, 1));
        Check.due("trust(0, NONE)", 1, x.trust(0, Quorumfund.NONE));
        Check.due("trust(0, NONE) again", Quorumfund.NONE, x.trust(0, Quorumfund.NONE));
        Check.due("trust(7, 0)", Quorumfund.NONE, x.trust(7, 0));
        Check.due("trust(7, NONE)", 0, x.trust(7, Quorumfund.NONE));
    }

    private static void promise4TrustInRows() {
        Quorumfund x = new Quorumfund();
        x.trust(0, 1);
        x.trust(1, 2);
        Check.refused(x, "over one", STATE, () -> x.trust(1, 0));
        Check.refused(x, "over two", STATE, () -> x.trust(2, 0));
        Check.due("many may trust one", Quorumfund.NONE, x.trust(3, 2));
        Check.due("in place of another one", 1, x.trust(0, 3));
        Check.due("the old row is gone", Quorumfund.NONE, x.trust(2, 4));
        Check.due("a row may turn round", 3, x.trust(0, Quorumfund.NONE));
        Check.due("and then", Quorumfund.NONE, x.trust(4, 0));
        Check.refused(x, "round the other way", STATE, () -> x.trust(0, 1));
        Check.due("its own old trust does not hinder", 2, x.trust(1, 4));
    }

    private static void promise4LongestRow() {
        Quorumfund x = new Quorumfund();
        for (int giver = 0; giver < 7; giver++) {
            x.trust(giver, giver + 1);
        }
        for (int giver = 0; giver < 8; giver++) {
            int end = giver;
            Check.refused(x, "the row of eight, to " + end, STATE, () -> x.trust(7, end));
        }
        x.addMilestone(1);
        x.vote(7, Quorumfund.YES);
        Check.due("the speaker over eight", 7, x.speaker(0));
    }

    private static void promise4TrustRefusals() {
        Quorumfund x = new Quorumfund();
        x.trust(1, 2);
        for (int giver = 0; giver < 8; giver++) {
            int one = giver;
            Check.refused(x, "trust in itself", STATE, () -> x.trust(one, one));
        }
        for (int giver : NO_GIVERS) {
            Check.refused(x, "trust: no giver " + giver, NO_SUCH, () -> x.trust(giver, 0));
            Check.refused(x, "trust: no giver " + giver + " and NONE", NO_SUCH, () -> x.trust(giver, Quorumfund.NONE));
            Check.refused(x, "trust: no giver before state " + giver, NO_SUCH, () -> x.trust(giver, giver));
            if (giver != Quorumfund.NONE) {
                Check.refused(x, "trust: no other " + giver, NO_SUCH, () -> x.trust(1, giver));
            }
        }
    }

    private static void promise5SetPerson() {
        Quorumfund x = new Quorumfund();
        Check.due("setPerson(0, 7)", 0, x.setPerson(0, 7));
        Check.due("setPerson(0, 7) again", 7, x.setPerson(0, 7));
        Check.due("setPerson(0, 0)", 7, x.setPerson(0, 0));
        Check.due("setPerson(7, 0)", 7, x.setPerson(7, 0));
        Check.due("setPerson(7, 3)", 0, x.setPerson(7, 3));
        for (int number : NO_GIVERS) {
            Check.refused(x, "setPerson: no giver " + number, NO_SUCH, () -> x.setPerson(number, 0));
            Check.refused(x, "setPerson: no person " + number, NO_SUCH, () -> x.setPerson(0, number));
            Check.refused(x, "setPerson: neither " + number, NO_SUCH, () -> x.setPerson(number, number));
        }
    }

    private static void promises6And7InAndInByBook() {
        Quorumfund x = new Quorumfund();
        x.give(0, 30);
        x.give(0, 40);
        x.give(7, 5);
        Check.due("in(0)", 70, x.in(0));
        Check.due("inByBook(0)", 70, x.inByBook(0));
        x.leave(0);
        x.give(0, 9);
        Check.due("in(0) after coming back", 9, x.in(0));
        Check.due("inByBook(0) after coming back", 9, x.inByBook(0));
        Check.due("in(7)", 5, x.in(7));
        Check.due("inByBook(7)", 5, x.inByBook(7));
        for (int giver : NO_GIVERS) {
            Check.refused(x, "in: no giver " + giver, NO_SUCH, () -> x.in(giver));
            Check.refused(x, "inByBook: no giver " + giver, NO_SUCH, () -> x.inByBook(giver));
        }
    }

    private static void promises6And7AfterReleases() {
        Quorumfund x = new Quorumfund();
        x.give(0, 100);
        x.give(1, 50);
        x.fillPot(1000);
        for (int milestone = 0; milestone < 2; milestone++) {
            x.addMilestone(60);
            x.prove(milestone);
            x.vote(0, Quorumfund.YES);
            x.release();
        }
        Check.due("in(0) after two releases", 20, x.in(0));
        Check.due("inByBook(0) after two releases", 20, x.inByBook(0));
        Check.due("in(1) after two releases", 10, x.in(1));
        Check.due("inByBook(1) after two releases", 10, x.inByBook(1));
        Check.due("leave(0) gives what is left", 20, x.leave(0));
        Check.due("inByBook(0) at last", 0, x.inByBook(0));
    }

    private static void promise8Total() {
        Quorumfund x = new Quorumfund();
        for (int giver = 0; giver < 8; giver++) {
            x.give(giver, 1 << giver);
        }
        Check.due("total of all", 255, x.total());
        x.leave(0);
        Check.due("total without the first", 254, x.total());
        x.leave(7);
        Check.due("total without the last", 126, x.total());
        x.fillPot(1000);
        Check.due("the pot is not in the total", 126, x.total());
        x.addMilestone(26);
        x.prove(0);
        x.vote(6, Quorumfund.YES);
        x.release();
        Check.due("total after a release", 100, x.total());
    }
}
