import java.util.Arrays;

/** Promises 17 to 21: a test for each sentence that names an edge, under the sentence's own words. */
public final class WhatGoesOutEdgesTest {
    private static final int NONE = Quorumfund.NONE;
    private static final int SILENT = Quorumfund.SILENT;
    private static final int YES = Quorumfund.YES;
    private static final int NO = Quorumfund.NO;

    public static void main(String[] args) {
        shareRoundedDown();
        shareOfLargeSums();
        shareOfAllThatIsIn();
        lackingOneByOne();
        lackingOnlyToThoseWithMoreIn();
        shareIfReleasedNow();
        shareNoSuchGiver();
        nothingWithoutACurrentMilestone();
        nothingBelowTheAmount();
        partOfAPerson();
        rootIsTheGreatest();
        matchAtLeastNothing();
        matchAtMostThePot();
        matchOfAnEmptyPot();
        matchOfLargeSums();
        pairsFindTheSame();
        releasePaysSharesAndMatch();
        releasePaysMatchUpToThePot();
        releaseNoCurrentMilestone();
        releaseNotProved();
        releaseTotalBelowTheAmount();
        releaseNotMoreThanHalf();
        releaseOfLargeSums();
        releaseAnyOfTheFaults();
        outOfReleasesOnly();
        outOfLargeSums();
        Check.end();
    }

    private static int[] each(int money) {
        int[] gifts = new int[8];
        Arrays.fill(gifts, money);
        return gifts;
    }

    // ---- promise 17

    private static void shareRoundedDown() {
        Check.says("its amount times what the giver has in, divided by the total, rounded down");
        Outgoing.shares("no rest", Fund.with(5, 0, 2, 4, 4), 0, 1, 2, 2);
        Outgoing.shares("a rest of nearly one", Fund.with(5, 0, 1, 5), 0, 1, 4);
        Outgoing.shares("the last giver alone", Fund.with(9, 0, 0, 0, 0, 0, 0, 0, 10), 0, 0, 0, 0, 0, 0, 0, 9);
    }

    private static void shareOfLargeSums() {
        Check.says("its amount times what the giver has in, divided by the total, rounded down");
        Outgoing.shares("just above an int", Fund.with(46341, 46341, 1), 46341, 0);
        Outgoing.shares("above twice an int", Fund.with(100000, 100000, 99999), 50001, 49999);
        Outgoing.shares("all of the most", Fund.with(100000, 100000), 100000);
        Outgoing.shares("the most of all", Fund.with(100000, each(100000)), each(12500));
    }

    private static void shareOfAllThatIsIn() {
        Check.says("its amount times what the giver has in, divided by the total, rounded down");
        Outgoing.shares("all of the total", Fund.with(18, 1, 7, 10), 1, 7, 10);
        Outgoing.shares("all of the least", Fund.with(1, 0, 0, 0, 1), 0, 0, 0, 1);
        Outgoing.shares("all but one", Fund.with(17, 1, 7, 10), 1, 7, 9);
        Outgoing.shares("one of many", Fund.with(1, 1, 7, 10), 1, 0, 0);
    }

    private static void lackingOneByOne() {
        Check.says("what is lacking to the amount is shared out one by one .. by rising numbers");
        for (int lacking = 1; lacking <= 7; lacking++) {
            int[] want = each(5);
            for (int giver = 0; giver < lacking; giver++) {
                want[giver] = 6;
            }
            Outgoing.shares(lacking + " are lacking", Fund.with(40 + lacking, each(9)), want);
        }
        Outgoing.shares("none is lacking", Fund.with(40, each(9)), each(5));
        Outgoing.shares("seven of a large sum", Fund.with(99999, each(100000)),
                12500, 12500, 12500, 12500, 12500, 12500, 12500, 12499);
    }

    private static void lackingOnlyToThoseWithMoreIn() {
        Check.says("1 to each giver that has more in than its share");
        Outgoing.shares("not to those without", Fund.with(5, 0, 3, 0, 3, 3), 0, 2, 0, 2, 1);
        Outgoing.shares("also to one without a rest", Fund.with(3, 2, 1, 1, 2), 2, 0, 0, 1);
        Fund left = Fund.with(5, 9, 3, 9, 3, 3);
        left.leave(0);
        left.leave(2);
        Outgoing.shares("not to those who have left", left, 0, 2, 0, 2, 1);
        Fund paid = Fund.with(3, 1, 1, 1);
        paid.proveAndRelease();
        paid.addMilestone(5);
        paid.give(3, 4);
        paid.give(7, 4);
        Outgoing.shares("not to those whose money all went out", paid, 0, 0, 0, 3, 0, 0, 0, 2);
    }

    private static void shareIfReleasedNow() {
        Check.says("17: Returns the share of a giver, if the current milestone was released now.");
        Fund x = Fund.with(10, 20, 20);
        x.addMilestone(30);
        for (int giver = 0; giver < 8; giver++) {
            int one = giver;
            Check.asked(x, "share(" + one + ")", giver < 2 ? 5 : 0, f -> f.share(one));
        }
        x.vote(0, NO);
        x.setPerson(1, 0);
        x.trust(1, 0);
        x.fillPot(9);
        Outgoing.shares("neither proof, votes, persons nor the pot count", x, 5, 5);
        x.give(0, 40);
        Outgoing.shares("a gift counts", x, 8, 2);
        x.leave(1);
        Outgoing.shares("leaving counts", x, 10, 0);
        x.proveAndRelease();
        Outgoing.shares("then the next one is current", x, 30, 0);
    }

    private static void shareNoSuchGiver() {
        Check.says("17: Throws IndexOutOfBoundsException as told");
        Fund none = new Fund();
        Fund below = Fund.with(10, 9);
        Fund open = Fund.with(10, 10);
        for (int giver : Check.NOT_0_TO_7) {
            Check.refused(none, "no milestone: share(" + giver + ")", Check.NO_SUCH, f -> f.share(giver));
            Check.refused(below, "not enough: share(" + giver + ")", Check.NO_SUCH, f -> f.share(giver));
            Check.refused(open, "enough: share(" + giver + ")", Check.NO_SUCH, f -> f.share(giver));
        }
    }

    // ---- promises 17 to 19: refusals

    private static void nothingWithoutACurrentMilestone() {
        Check.says("17, 18, 19: NoSuchElementException if there is no current milestone");
        Outgoing.nothing("empty", new Fund());
        Fund x = new Fund();
        x.give(0, 100);
        x.fillPot(100);
        Outgoing.nothing("money, but no milestone", x);
        for (int milestone = 0; milestone < 6; milestone++) {
            x.addMilestone(1);
            Check.due("a milestone: share", 1, x.share(0));
            Outgoing.matches("a milestone", x, 0);
            x.proveAndRelease();
            Outgoing.nothing("released " + milestone, x);
        }
    }

    private static void nothingBelowTheAmount() {
        Check.says("17, 18, 19: NoSuchElementException if .. the total is less than its amount");
        for (int amount : new int[] {1, 2, 51, 99999, 100000}) {
            Fund x = new Fund();
            x.addMilestone(amount);
            x.fillPot(100000);
            Outgoing.nothing("nothing in for " + amount, x);
            x.giveInParts(7, amount - 1);
            Outgoing.nothing("one below " + amount, x);
            x.give(0, 1);
            Check.due("just enough: share(0)", 1, x.share(0));
            Check.due("just enough: share(7)", amount - 1, x.share(7));
            Check.due("just enough: match", x.matchByPairs(), x.match());
            x.leave(0);
            Outgoing.nothing("one below again " + amount, x);
        }
    }

    // ---- promises 18 and 19: matches

    private static void partOfAPerson() {
        Check.says("its part be the shares of all givers that belong to it, together");
        Fund x = Fund.with(8, each(1));
        x.fillPot(1000);
        for (int giver = 0; giver < 8; giver++) {
            x.setPerson(giver, 0);
        }
        Outgoing.matches("all of one person, 2 * 2", x, 0);
        int[] roots = {1 + 2, 1 + 1 + 2, 1 + 1 + 1 + 2, 1 + 1 + 1 + 1 + 2, 1 + 1 + 1 + 1 + 1 + 1};
        for (int giver = 7; giver >= 3; giver--) {
            x.setPerson(giver, giver);
            int sum = roots[7 - giver];
            Outgoing.matches("from giver " + giver + " on each for itself", x, Math.max(0, sum * sum - 8));
        }
        Fund pairs = Fund.with(32, each(4));
        pairs.fillPot(1000);
        for (int giver = 0; giver < 4; giver++) {
            pairs.setPerson(giver, 7 - giver);
        }
        Outgoing.matches("four persons with 8 each", pairs, 8 * 8 - 32);
        pairs.setPerson(0, 0);
        Outgoing.matches("three with 8, two with 4", pairs, 10 * 10 - 32);
    }

    private static void rootIsTheGreatest() {
        Check.says("its root the greatest whole number whose square is at most the part");
        for (int root = 1; root <= 316; root++) {
            rootOf(root * root - 1, root - 1);
            rootOf(root * root, root);
            rootOf(root * root + 1, root);
        }
        rootOf(99999, 316);
    }

    /** A giver with this part beside another one with 1: the match tells the root of the part. */
    private static void rootOf(int part, int root) {
        Fund x = Fund.with(part + 1, 0, part, 1);
        x.fillPot(100000);
        Outgoing.matches("the root of " + part, x, Math.max(0, (root + 1) * (root + 1) - part - 1));
    }

    private static void matchAtLeastNothing() {
        Check.says("less the amount; but at least 0");
        Fund below = Fund.with(10, 10);
        below.fillPot(100);
        Outgoing.matches("9 less 10", below, 0);
        Fund equal = Fund.with(9, 10);
        equal.fillPot(100);
        Outgoing.matches("9 less 9", equal, 0);
        Fund above = Fund.with(8, 1, 7);
        above.fillPot(100);
        Outgoing.matches("9 less 8", above, 1);
        Fund farBelow = Fund.with(100000, 100000);
        farBelow.fillPot(100000);
        Outgoing.matches("316 * 316 less 100000", farBelow, 0);
    }

    private static void matchAtMostThePot() {
        Check.says("and at most what is in the pot");
        Fund x = Fund.with(8, each(1));
        x.fillPot(1);
        Outgoing.matches("the least in the pot", x, 1);
        x.fillPot(54);
        Outgoing.matches("one less in the pot", x, 55);
        x.fillPot(1);
        Outgoing.matches("just that in the pot", x, 56);
        x.fillPot(1);
        Outgoing.matches("one more in the pot", x, 56);
    }

    private static void matchOfAnEmptyPot() {
        Check.says("what is in the pot (0 at first)");
        Fund x = Fund.with(8, each(1));
        Outgoing.matches("never filled", x, 0);
        x.fillPot(56);
        x.addMilestone(8);
        x.proveAndRelease();
        for (int giver = 0; giver < 8; giver++) {
            x.give(giver, 1);
        }
        Outgoing.matches("emptied", x, 0);
    }

    private static void matchOfLargeSums() {
        Check.says("The match is the square of the sum of all roots, less the amount");
        Fund most = Fund.with(100000, each(100000));
        most.fillPotInParts(1000000);
        Outgoing.matches("eight times 111", most, 888 * 888 - 100000);
        Fund squares = Fund.with(8 * 111 * 111, each(100000));
        squares.fillPotInParts(1000000);
        Outgoing.matches("the most that a match can be", squares, 888 * 888 - 8 * 111 * 111);
    }

    private static void pairsFindTheSame() {
        Check.says("19: from the squares of all roots, and twice the products of all two unlike ones");
        for (int one = 0; one < 8; one++) {
            Fund alone = new Fund();
            alone.addMilestone(25);
            alone.fillPot(1000);
            alone.give(one, 26);
            Outgoing.matches("one root, of person " + one, alone, 0);
            for (int other = 0; other < one; other++) {
                Fund two = alone.again();
                two.leave(one);
                two.give(one, 16);
                two.give(other, 9);
                Outgoing.matches("4 of " + one + " and 3 of " + other, two, 7 * 7 - 25);
            }
        }
        Fund like = Fund.with(18, 9, 9);
        like.fillPot(1000);
        Outgoing.matches("two roots of the same size are two", like, 6 * 6 - 18);
    }

    // ---- promise 20

    private static void releasePaysSharesAndMatch() {
        Check.says("20: its shares go out of what givers have in, and the match out of the pot");
        for (int amount = 1; amount <= 36; amount++) {
            Fund x = Fund.with(amount, 1, 2, 3, 4, 5, 6, 7, 8);
            x.setPerson(3, 7);
            x.fillPot(20);
            Fund asked = x.again();
            int match = asked.match();
            Check.due("Returns its amount and the match, together", amount + match, x.proveAndRelease());
            Check.due("pot after " + amount, 20 - match, x.pot());
            Check.due("total after " + amount, 36 - amount, x.total());
            for (int giver = 0; giver < 8; giver++) {
                Check.due("in(" + giver + ") after " + amount, giver + 1 - asked.share(giver), x.in(giver));
                Check.due("inByBook(" + giver + ") after " + amount, x.in(giver), x.inByBook(giver));
            }
        }
    }

    private static void releasePaysMatchUpToThePot() {
        Check.says("20: the match out of the pot. Returns its amount and the match, together.");
        int[] pots = {0, 1, 55, 56, 57};
        int[] matches = {0, 1, 55, 56, 56};
        for (int i = 0; i < pots.length; i++) {
            Fund x = Fund.with(8, each(1));
            x.fillPotInParts(pots[i]);
            Check.due("release with a pot of " + pots[i], 8 + matches[i], x.proveAndRelease());
            Check.due("pot of " + pots[i] + " then", pots[i] - matches[i], x.pot());
            Check.due("out() then", 8 + matches[i], x.out());
        }
    }

    private static void releaseNoCurrentMilestone() {
        Check.says("20: Throws IllegalStateException if there is no current milestone");
        Check.refused(new Fund(), "empty", Check.STATE, Quorumfund::release);
        Fund x = new Fund();
        x.give(0, 100);
        for (int milestone = 0; milestone < 6; milestone++) {
            Check.refused(x, "before milestone " + milestone, Check.STATE, Quorumfund::release);
            x.addMilestone(1);
            Check.due("with it", 1, x.proveAndRelease());
        }
        Check.refused(x, "after the last", Check.STATE, Quorumfund::release);
    }

    private static void releaseNotProved() {
        Check.says("20: Throws IllegalStateException if .. it is not proved");
        Fund x = Fund.with(5, 10);
        x.addMilestone(5);
        x.vote(0, YES);
        Check.refused(x, "never proved", Check.STATE, Quorumfund::release);
        x.prove(1);
        Check.refused(x, "only the next one is proved", Check.STATE, Quorumfund::release);
        x.prove(0);
        x.prove(0);
        Check.refused(x, "the proof is taken back", Check.STATE, Quorumfund::release);
        x.prove(0);
        x.prove(1);
        Check.due("only this one is proved", 5, x.release());
        x.vote(0, YES);
        Check.refused(x, "the proof of the one before is not its own", Check.STATE, Quorumfund::release);
    }

    private static void releaseTotalBelowTheAmount() {
        Check.says("20: Throws IllegalStateException if .. the total is less than its amount");
        for (int amount : new int[] {1, 2, 50, 100000}) {
            Fund x = new Fund();
            x.addMilestone(amount);
            x.prove(0);
            x.vote(0, YES);
            x.trust(7, 0);
            Check.refused(x, "nothing in for " + amount, Check.STATE, Quorumfund::release);
            x.giveInParts(7, amount - 1);
            Check.refused(x, "one below " + amount, Check.STATE, Quorumfund::release);
            x.give(0, 1);
            Check.due("just enough for " + amount, amount, x.again().release());
            x.give(0, 1);
            Check.due("one more than " + amount, amount, x.release());
            Check.due("one is left", 1, x.total());
        }
    }

    private static void releaseNotMoreThanHalf() {
        Check.says("20: Throws IllegalStateException if .. twice the weight of yes is not more than the total");
        Fund even = Fund.with(10, 10, 10);
        even.prove(0);
        even.vote(0, YES);
        Check.refused(even, "20 of 20", Check.STATE, Quorumfund::release);
        even.vote(1, NO);
        Check.refused(even, "20 of 20 against no", Check.STATE, Quorumfund::release);
        even.give(0, 1);
        Check.due("22 of 21", 10, even.release());
        Fund odd = Fund.with(10, 10, 11);
        odd.prove(0);
        odd.vote(0, YES);
        Check.refused(odd, "20 of 21", Check.STATE, Quorumfund::release);
        odd.give(0, 2);
        Check.due("24 of 23", 10, odd.release());
        Fund silent = Fund.with(10, 10);
        silent.prove(0);
        Check.refused(silent, "nobody has voted", Check.STATE, Quorumfund::release);
        silent.vote(7, YES);
        Check.refused(silent, "one with nothing in has voted", Check.STATE, Quorumfund::release);
        silent.vote(0, NO);
        Check.refused(silent, "all no", Check.STATE, Quorumfund::release);
        silent.vote(0, YES);
        Check.due("all yes", 10, silent.release());
    }

    private static void releaseOfLargeSums() {
        Check.says("20: Throws IllegalStateException if .. twice the weight of yes is not more than the total");
        Fund x = Fund.with(100000, each(100000));
        x.prove(0);
        for (int giver = 0; giver < 4; giver++) {
            x.vote(giver, YES);
        }
        Check.refused(x, "800000 of 800000", Check.STATE, Quorumfund::release);
        x.leave(7);
        x.giveInParts(7, 99999);
        Check.due("800000 of 799999", 100000, x.release());
    }

    /** Each fault alone and all of them together; the first bit is no proof, then too little, then no votes. */
    private static void releaseAnyOfTheFaults() {
        Check.says("20: Throws IllegalStateException if there is no current milestone, it is not proved, ..");
        for (int faults = 0; faults < 8; faults++) {
            Fund x = Fund.with(10, 0, 9);
            x.fillPot(5);
            if ((faults & 1) == 0) {
                x.prove(0);
            }
            if ((faults & 2) == 0) {
                x.give(0, 1);
            }
            if ((faults & 4) == 0) {
                x.vote(1, YES);
            }
            if (faults != 0) {
                Check.refused(x, "the faults " + faults, Check.STATE, Quorumfund::release);
            } else {
                Check.due("no fault", 15, x.release());
            }
        }
    }

    // ---- promise 21

    private static void outOfReleasesOnly() {
        Check.says("21: Returns all that went out by releases so far.");
        Check.asked(new Fund(), "nothing", 0, Quorumfund::out);
        Fund x = Fund.with(8, each(2));
        x.fillPot(60);
        x.leave(0);
        x.give(0, 2);
        Check.asked(x, "gifts, leavings and the pot are not out", 0, Quorumfund::out);
        x.outcome(Quorumfund::release);
        Check.due("a refused release", 0, x.out());
        x.proveAndRelease();
        Check.asked(x, "its amount and the match", 8 + 56, Quorumfund::out);
        x.addMilestone(8);
        x.proveAndRelease();
        Check.asked(x, "of both", 8 + 56 + 8 + 4, Quorumfund::out);
        x.give(3, 8);
        x.leave(3);
        Check.due("what a giver gets back is not out", 76, x.out());
        Check.due("nor is it in", 0, x.total());
    }

    private static void outOfLargeSums() {
        Check.says("21: Returns all that went out by releases so far.");
        int amount = 8 * 111 * 111;
        int match = 888 * 888 - amount;
        Fund x = Fund.with(amount, each(100000));
        x.addMilestones(5, amount);
        for (int milestone = 0; milestone < 6; milestone++) {
            x.fillPotInParts(1000000 - x.pot());
            Check.due("each release", 888 * 888, x.proveAndRelease());
            Check.due("the pot after", 1000000 - match, x.pot());
            Check.due("out() after " + milestone, (milestone + 1) * 888 * 888, x.out());
        }
        for (int giver = 0; giver < 8; giver++) {
            Check.due("left in(" + giver + ")", 100000 - 6 * 111 * 111, x.in(giver));
            Check.due("left by book(" + giver + ")", 100000 - 6 * 111 * 111, x.inByBook(giver));
        }
        Check.due("none is left", NONE, x.current());
        Check.due("no speaker", NONE, x.speaker(0));
        Check.refused(x, "no vote", Check.STATE, f -> f.vote(0, SILENT));
    }
}
