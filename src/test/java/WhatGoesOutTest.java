/** Promises 17 to 21, ordinary use; their edges are in WhatGoesOutEdgesTest. */
public final class WhatGoesOutTest {
    public static void main(String[] args) {
        promise17Share();
        promises18And19Match();
        promises18And19Persons();
        promise20Release();
        promise20ReleaseByVotesPassedOn();
        promise20ChangesNothingElse();
        promise21Out();
        Check.end();
    }

    private static void promise17Share() {
        Outgoing.shares("even", Fund.with(60, 100, 50, 150), 20, 10, 30);
        Outgoing.shares("one is lacking", Fund.with(60, 100, 50, 51), 30, 15, 15);
        Outgoing.shares("two are lacking", Fund.with(2, 10, 10, 10), 1, 1, 0);
        Outgoing.shares("a giver without a fraction may get it too", Fund.with(3, 2, 1, 1, 2), 2, 0, 0, 1);
    }

    private static void promises18And19Match() {
        Fund x = Fund.with(60, 100, 50, 51);
        x.fillPot(1000);
        Outgoing.matches("5 and 3 and 3", x, 121 - 60);
        Fund squares = Fund.with(50, 1, 49);
        squares.fillPot(1000);
        Outgoing.matches("1 and 7", squares, 64 - 50);
    }

    private static void promises18And19Persons() {
        Fund x = Fund.with(60, 100, 50, 51);
        x.fillPot(1000);
        x.setPerson(2, 1);
        Outgoing.matches("5 and 5", x, 100 - 60);
        x.setPerson(0, 7);
        Outgoing.matches("the number of the person is all one", x, 100 - 60);
        x.setPerson(1, 7);
        x.setPerson(2, 7);
        Outgoing.matches("one person, 7", x, 0);
        x.setPerson(1, 0);
        x.setPerson(2, 2);
        Outgoing.matches("each for itself again", x, 121 - 60);
    }

    private static void promise20Release() {
        Fund x = Fund.with(60, 100, 50, 51);
        x.addMilestone(20);
        x.fillPot(1000);
        x.vote(0, Quorumfund.NO);
        x.vote(1, Quorumfund.YES);
        x.vote(2, Quorumfund.YES);
        x.prove(0);
        Check.due("release()", 121, x.release());
        Check.due("in(0)", 70, x.in(0));
        Check.due("in(1)", 35, x.in(1));
        Check.due("in(2)", 36, x.in(2));
        Check.due("in(3)", 0, x.in(3));
        for (int giver = 0; giver < 8; giver++) {
            Check.due("by book", x.in(giver), x.inByBook(giver));
        }
        Check.due("pot()", 939, x.pot());
        Check.due("out()", 121, x.out());
        Check.due("current()", 1, x.current());
        Check.due("yes", 0, x.weight(Quorumfund.YES));
        Check.due("no", 0, x.weight(Quorumfund.NO));
        Check.due("the next is not proved", true, x.prove(1));
    }

    private static void promise20ReleaseByVotesPassedOn() {
        Fund x = Fund.with(10, 10, 9, 8);
        x.prove(0);
        x.trust(0, 1);
        x.vote(1, Quorumfund.YES);
        Check.due("votes are passed on", 10, x.release());
    }

    private static void promise20ChangesNothingElse() {
        Fund x = Fund.with(5, 10, 3);
        x.addMilestone(2);
        x.addMilestone(2);
        x.setPerson(0, 3);
        x.trust(1, 0);
        x.prove(0);
        x.prove(1);
        x.vote(0, Quorumfund.YES);
        x.release();
        Check.due("the person stays", 3, x.setPerson(0, 3));
        Check.due("the trust stays", 0, x.trust(1, 0));
        Check.due("the proof of the next stays", false, x.prove(1));
        Check.due("the one after is unproved", true, x.prove(2));
    }

    private static void promise21Out() {
        Fund x = Fund.with(4, 100, 100);
        Check.due("out() at first", 0, x.out());
        x.addMilestone(200 - 4);
        x.fillPot(7);
        Check.due("a match of 0", 4, x.proveAndRelease());
        Check.due("out() after one", 4, x.out());
        Check.due("the match is what the pot has", 203, x.proveAndRelease());
        Check.due("out() after two", 207, x.out());
        Check.due("the pot is empty", 0, x.pot());
    }
}
