/** Promises 1 to 8: a test for each sentence that names an edge, under the sentence's own words. */
public final class GiversEdgesTest {
    private static final int NONE = Quorumfund.NONE;

    public static void main(String[] args) {
        beginsWithoutMoney();
        beginsWithoutMilestones();
        giveAmountInRange();
        giveReturnsWhatIsInThen();
        giveNoSuchGiver();
        giveAmountOutOfRange();
        giveMoreThanTheMost();
        giveTheMostIsOfWhatIsInNow();
        leaveGetsBackWhatItHasIn();
        leaveWithNothingIn();
        leaveItsVoteIsGone();
        leaveTrustStays();
        leaveNoSuchGiver();
        trustInPlaceOfAnother();
        trustAGiverOrNone();
        trustNoneForNobody();
        trustNoSuchGiver();
        trustNoSuchOther();
        trustItselfDirectly();
        trustItselfOverOthers();
        trustJustNotItself();
        trustRefusedKeepsTheOld();
        personInRange();
        personBefore();
        personNoSuchGiver();
        personNoSuchPerson();
        inAsItIsKept();
        inNoSuchGiver();
        bookOfAllThatWasGiven();
        bookLessWhatItGotBack();
        bookLessWhatWentOut();
        bookNoSuchGiver();
        totalFromEmptyToFull();
        Check.end();
    }

    // ---- promise 1

    private static void beginsWithoutMoney() {
        Check.says("1: Begins without money");
        Fund x = new Fund();
        for (int giver = 0; giver < 8; giver++) {
            Check.due("in", 0, x.in(giver));
            Check.due("inByBook", 0, x.inByBook(giver));
            Check.due("speaker", NONE, x.speaker(giver));
            Check.due("person", giver, x.setPerson(giver, giver));
            Check.due("trust", NONE, x.trust(giver, NONE));
            Check.due("leave", 0, x.leave(giver));
        }
        Check.due("total", 0, x.total());
        Check.due("pot", 0, x.pot());
        Check.due("out", 0, x.out());
        Check.due("yes", 0, x.weight(Quorumfund.YES));
        Check.due("no", 0, x.weight(Quorumfund.NO));
    }

    private static void beginsWithoutMilestones() {
        Check.says("1: Begins without .. milestones");
        Fund x = new Fund();
        Check.due("current", NONE, x.current());
        Check.refused(x, "prove(0)", Check.NO_SUCH, f -> f.prove(0));
        Check.refused(x, "vote(0, YES)", Check.STATE, f -> f.vote(0, Quorumfund.YES));
        Check.refused(x, "share(0)", Check.NOTHING, f -> f.share(0));
        Check.refused(x, "match()", Check.NOTHING, Quorumfund::match);
        Check.refused(x, "matchByPairs()", Check.NOTHING, Quorumfund::matchByPairs);
        Check.refused(x, "release()", Check.STATE, Quorumfund::release);
        Check.due("the first number", 0, x.addMilestone(1));
    }

    // ---- promise 2

    private static void giveAmountInRange() {
        Check.says("2: amount: 1 to 10000");
        Fund x = new Fund();
        for (int giver = 0; giver < 8; giver++) {
            Check.due("the least of giver " + giver, 1, x.give(giver, 1));
            Check.due("the most of giver " + giver, 10001, x.give(giver, 10000));
        }
    }

    private static void giveReturnsWhatIsInThen() {
        Check.says("2: Returns what the giver has in then.");
        Fund x = Fund.with(20, 30, 10);
        Check.due("beside another", 31, x.give(0, 1));
        x.leave(1);
        Check.due("after leaving", 7, x.give(1, 7));
        x.leave(1);
        x.proveAndRelease();
        Check.due("after a release", 12, x.give(0, 1));
    }

    private static void giveNoSuchGiver() {
        Check.says("2: Throws IndexOutOfBoundsException as told");
        Fund x = Fund.with(5, 3, 4);
        for (int giver : Check.NOT_0_TO_7) {
            Check.refused(x, "give(" + giver + ", 1)", Check.NO_SUCH, f -> f.give(giver, 1));
            Check.refused(x, "give(" + giver + ", 10000)", Check.NO_SUCH, f -> f.give(giver, 10000));
        }
    }

    private static void giveAmountOutOfRange() {
        Check.says("2: Throws IllegalArgumentException if amount is out of range");
        Fund x = Fund.with(5, 20000, 4);
        int[] outside = {0, -1, 10001, -10000, 10002, 65537, 100000, Integer.MIN_VALUE, Integer.MAX_VALUE};
        for (int amount : outside) {
            Check.refused(x, "give(0, " + amount + ")", Check.BAD, f -> f.give(0, amount));
            Check.refused(x, "give(7, " + amount + ")", Check.BAD, f -> f.give(7, amount));
        }
    }

    private static void giveMoreThanTheMost() {
        Check.says("2: Throws IllegalStateException if it would have more than 100000 in");
        for (int giver = 0; giver < 8; giver++) {
            int one = giver;
            Fund x = new Fund();
            x.giveInParts(one, 90000);
            Check.asked(x.again(), "just the most is no fault: in", 90000, f -> f.in(one));
            Check.due("just the most", 100000, x.again().give(one, 10000));
            x.give(one, 1);
            Check.refused(x, "one above the most", Check.STATE, f -> f.give(one, 10000));
            Check.due("just the most by 9999", 100000, x.again().give(one, 9999));
            x.give(one, 9998);
            Check.refused(x, "one above the most by 2", Check.STATE, f -> f.give(one, 2));
            Check.due("just the most by 1", 100000, x.give(one, 1));
            Check.refused(x, "above the most by 1", Check.STATE, f -> f.give(one, 1));
            Check.refused(x, "far above the most", Check.STATE, f -> f.give(one, 10000));
            Check.due("the limit is each giver's own", 10000, x.give((one + 1) % 8, 10000));
        }
    }

    private static void giveTheMostIsOfWhatIsInNow() {
        Check.says("2: Throws IllegalStateException if it would have more than 100000 in");
        Fund left = new Fund();
        left.giveInParts(3, 100000);
        left.leave(3);
        left.giveInParts(3, 99999);
        Check.due("up to the most again after leaving", 100000, left.give(3, 1));
        Check.refused(left, "above the most after leaving", Check.STATE, f -> f.give(3, 1));
        Fund released = Fund.with(7, 100000);
        released.proveAndRelease();
        Check.refused(released, "one above the most after a release", Check.STATE, f -> f.give(0, 8));
        Check.due("up to the most again after a release", 100000, released.give(0, 7));
        Check.refused(released, "above the most after a release", Check.STATE, f -> f.give(0, 1));
    }

    // ---- promise 3

    private static void leaveGetsBackWhatItHasIn() {
        Check.says("3: it gets back what it has in");
        for (int giver = 0; giver < 8; giver++) {
            Fund x = new Fund();
            x.giveInParts(giver, 100000);
            x.give((giver + 1) % 8, 5);
            Check.due("all of the most", 100000, x.leave(giver));
            Check.due("nothing is left in", 0, x.in(giver));
            Check.due("nothing is left in the book", 0, x.inByBook(giver));
            Check.due("the others' money stays", 5, x.total());
            Check.due("it may come back", 1, x.give(giver, 1));
            Check.due("the least", 1, x.leave(giver));
        }
        Fund released = Fund.with(4, 10);
        released.proveAndRelease();
        Check.due("what a release has left", 6, released.leave(0));
        Fund emptied = Fund.with(10, 10);
        emptied.proveAndRelease();
        Check.due("when all went out", 0, emptied.leave(0));
    }

    private static void leaveWithNothingIn() {
        Check.says("3: it gets back what it has in");
        Fund x = Fund.with(4, 10);
        Check.asked(x, "one that never gave", 0, f -> f.leave(7));
        x.leave(0);
        Check.asked(x, "one that has left", 0, f -> f.leave(0));
    }

    private static void leaveItsVoteIsGone() {
        Check.says("3: and its vote is gone");
        for (int vote = Quorumfund.YES; vote <= Quorumfund.NO; vote++) {
            Fund x = Fund.with(4, 10, 10);
            for (int giver = 0; giver < 8; giver++) {
                x.vote(giver, vote);
            }
            x.leave(0);
            x.leave(7);
            Check.due("speaker of one with money", NONE, x.speaker(0));
            Check.due("speaker of one without money", NONE, x.speaker(7));
            Check.due("the vote of one with money", Quorumfund.SILENT, x.vote(0, vote));
            Check.due("the vote of one without money", Quorumfund.SILENT, x.vote(7, vote));
            for (int giver = 1; giver < 7; giver++) {
                Check.due("the vote of another", vote, x.vote(giver, vote));
            }
        }
        Fund back = Fund.with(4, 10, 9);
        back.vote(0, Quorumfund.YES);
        back.leave(0);
        back.give(0, 10);
        Check.due("it does not come back with the money", 0, back.weight(Quorumfund.YES));
    }

    private static void leaveTrustStays() {
        Check.says("3: whom it trusts, and who trusts it, stays");
        Fund x = Fund.with(4, 10, 10, 10);
        x.trust(0, 1);
        x.trust(1, 2);
        x.trust(7, 1);
        x.vote(2, Quorumfund.YES);
        x.leave(1);
        Check.due("the row over it", 2, x.speaker(0));
        Check.due("its own row", 2, x.speaker(1));
        Check.refused(x, "a ring over it", Check.STATE, f -> f.trust(2, 0));
        Check.due("whom it trusts", 2, x.trust(1, NONE));
        Check.due("who trusts it", 1, x.trust(0, NONE));
        Check.due("who else trusts it", 1, x.trust(7, NONE));
        Check.due("its person", 1, x.setPerson(1, 0));
    }

    private static void leaveNoSuchGiver() {
        Check.says("3: Throws IndexOutOfBoundsException as told");
        Fund x = Fund.with(5, 3, 4, 5, 6, 7, 8, 9, 10);
        x.vote(0, Quorumfund.YES);
        x.vote(7, Quorumfund.NO);
        for (int giver : Check.NOT_0_TO_7) {
            Check.refused(x, "leave(" + giver + ")", Check.NO_SUCH, f -> f.leave(giver));
        }
    }

    // ---- promise 4

    private static void trustInPlaceOfAnother() {
        Check.says("4: Sets whom a giver trusts, in place of another one.");
        Fund x = Fund.with(1);
        x.vote(2, Quorumfund.YES);
        x.trust(0, 2);
        Check.due("Returns whom it trusted before", 2, x.trust(0, 3));
        Check.due("the old one is not heard", NONE, x.speaker(0));
        Check.due("the old one may trust it", NONE, x.trust(2, 0));
        Check.refused(x, "the new one may not", Check.STATE, f -> f.trust(3, 0));
        Check.due("the same one again", 3, x.trust(0, 3));
        Check.due("it stays", 3, x.trust(0, 3));
    }

    private static void trustAGiverOrNone() {
        Check.says("4: other: a giver, or NONE");
        for (int giver = 0; giver < 8; giver++) {
            Fund x = new Fund();
            int before = NONE;
            for (int other = 0; other < 8; other++) {
                if (other != giver) {
                    Check.due("trust(" + giver + ", " + other + ")", before, x.trust(giver, other));
                    before = other;
                }
            }
            Check.due("trust(" + giver + ", NONE)", before, x.trust(giver, NONE));
            Check.due("it trusts nobody then", NONE, x.trust(giver, NONE));
        }
    }

    private static void trustNoneForNobody() {
        Check.says("4: NONE for nobody");
        Fund x = new Fund();
        for (int giver = 0; giver < 8; giver++) {
            int one = giver;
            Check.asked(x, "at first", NONE, f -> f.trust(one, NONE));
            x.trust(giver, giver - 1);
        }
        Check.due("giver 0 was set to NONE", NONE, x.trust(0, NONE));
        Check.due("giver 7 was not", 6, x.trust(7, NONE));
        Check.due("giver 7 was set to NONE", NONE, x.trust(7, NONE));
    }

    private static void trustNoSuchGiver() {
        Check.says("4: Throws IndexOutOfBoundsException as told");
        Fund x = new Fund();
        x.trust(1, 2);
        for (int giver : Check.NOT_0_TO_7) {
            Check.refused(x, "trust(" + giver + ", 0)", Check.NO_SUCH, f -> f.trust(giver, 0));
            Check.refused(x, "trust(" + giver + ", NONE)", Check.NO_SUCH, f -> f.trust(giver, NONE));
        }
    }

    private static void trustNoSuchOther() {
        Check.says("4: Throws IndexOutOfBoundsException as told");
        Fund x = new Fund();
        x.trust(1, 2);
        for (int other : Check.NOT_0_TO_7) {
            if (other != NONE) {
                Check.refused(x, "trust(0, " + other + ")", Check.NO_SUCH, f -> f.trust(0, other));
                Check.refused(x, "trust(1, " + other + ")", Check.NO_SUCH, f -> f.trust(1, other));
            }
        }
    }

    private static void trustItselfDirectly() {
        Check.says("4: Throws IllegalStateException if the giver would trust itself, directly");
        Fund x = new Fund();
        x.trust(1, 2);
        x.trust(3, 1);
        for (int giver = 0; giver < 8; giver++) {
            int one = giver;
            Check.refused(x, "trust(" + one + ", " + one + ")", Check.STATE, f -> f.trust(one, one));
        }
    }

    private static void trustItselfOverOthers() {
        Check.says("4: Throws IllegalStateException if the giver would trust itself .. over others");
        for (int step = 1; step < 8; step += 2) {
            Fund x = new Fund();
            for (int length = 2; length <= 8; length++) {
                int last = step * (length - 1) % 8;
                x.trust(step * (length - 2) % 8, last);
                for (int at = 0; at < length; at++) {
                    int back = step * at % 8;
                    Check.refused(x, "a row of " + length + " back to " + back, Check.STATE, f -> f.trust(last, back));
                }
            }
        }
    }

    private static void trustJustNotItself() {
        Check.says("4: Throws IllegalStateException if the giver would trust itself, directly or over others");
        Fund row = new Fund();
        for (int giver = 0; giver < 7; giver++) {
            Check.due("each longer row", NONE, row.trust(giver, giver + 1));
        }
        Check.due("a shorter way down the same row", 1, row.trust(0, 7));
        Check.due("the end of the row trusts nobody", NONE, row.trust(7, NONE));
        Fund cut = new Fund();
        cut.trust(0, 1);
        cut.trust(1, 2);
        cut.trust(0, NONE);
        Check.due("a row that is cut is no hindrance", NONE, cut.trust(2, 0));
        Check.refused(cut, "but the new one is", Check.STATE, f -> f.trust(0, 1));
        Fund other = new Fund();
        other.trust(3, 2);
        other.trust(1, 2);
        Check.due("two rows to one end are no ring", 2, other.trust(1, 3));
        Check.due("nobody trusts giver 1", NONE, other.trust(2, NONE));
    }

    private static void trustRefusedKeepsTheOld() {
        Check.says("4: Returns whom it trusted before");
        Fund x = new Fund();
        x.trust(0, 1);
        x.trust(1, 2);
        x.outcome(f -> f.trust(1, 0));
        x.outcome(f -> f.trust(1, 8));
        x.outcome(f -> f.trust(1, 1));
        Check.due("after refusals", 2, x.trust(1, NONE));
    }

    // ---- promise 5

    private static void personInRange() {
        Check.says("A giver belongs to a person, 0 to 7, at first the one with its own number.");
        for (int giver = 0; giver < 8; giver++) {
            Fund x = new Fund();
            int before = giver;
            for (int person = 0; person < 8; person++) {
                Check.due("setPerson(" + giver + ", " + person + ")", before, x.setPerson(giver, person));
                before = person;
            }
        }
    }

    private static void personBefore() {
        Check.says("5: Returns the person before.");
        Fund x = new Fund();
        for (int giver = 0; giver < 8; giver++) {
            Check.due("all to one person", giver, x.setPerson(giver, 7));
        }
        for (int giver = 0; giver < 8; giver++) {
            Check.due("from that one", 7, x.setPerson(giver, 0));
            Check.due("the same again", 0, x.setPerson(giver, 0));
        }
    }

    private static void personNoSuchGiver() {
        Check.says("5: Throws IndexOutOfBoundsException as told (giver)");
        Fund x = new Fund();
        for (int giver : Check.NOT_0_TO_7) {
            Check.refused(x, "setPerson(" + giver + ", 3)", Check.NO_SUCH, f -> f.setPerson(giver, 3));
            Check.refused(x, "neither " + giver, Check.NO_SUCH, f -> f.setPerson(giver, giver));
        }
    }

    private static void personNoSuchPerson() {
        Check.says("5: Throws IndexOutOfBoundsException as told (person)");
        Fund x = new Fund();
        for (int person : Check.NOT_0_TO_7) {
            Check.refused(x, "setPerson(0, " + person + ")", Check.NO_SUCH, f -> f.setPerson(0, person));
            Check.refused(x, "setPerson(7, " + person + ")", Check.NO_SUCH, f -> f.setPerson(7, person));
        }
    }

    // ---- promises 6 and 7

    private static void inAsItIsKept() {
        Check.says("6: Returns what a giver has in, as it is kept.");
        Fund x = new Fund();
        for (int giver = 0; giver < 8; giver++) {
            int one = giver;
            Check.asked(x, "nothing", 0, f -> f.in(one));
        }
        x.give(0, 1);
        x.giveInParts(7, 100000);
        Check.asked(x, "the least", 1, f -> f.in(0));
        Check.asked(x, "the most", 100000, f -> f.in(7));
        x.fillPot(5);
        Check.due("the pot is not in it", 1, x.in(0));
        x.leave(7);
        Check.due("after leaving", 0, x.in(7));
    }

    private static void inNoSuchGiver() {
        Check.says("6: Throws IndexOutOfBoundsException as told");
        Fund x = Fund.with(5, 3, 4);
        for (int giver : Check.NOT_0_TO_7) {
            Check.refused(x, "in(" + giver + ")", Check.NO_SUCH, f -> f.in(giver));
        }
    }

    private static void bookOfAllThatWasGiven() {
        Check.says("7: Returns what a giver has given so far");
        Fund x = new Fund();
        for (int giver = 0; giver < 8; giver++) {
            int one = giver;
            Check.asked(x, "nothing", 0, f -> f.inByBook(one));
        }
        x.give(0, 1);
        x.giveInParts(7, 100000);
        x.outcome(f -> f.give(7, 1));
        x.outcome(f -> f.give(0, 0));
        Check.asked(x, "a refused gift is not in the book", 1, f -> f.inByBook(0));
        Check.asked(x, "the most", 100000, f -> f.inByBook(7));
    }

    private static void bookLessWhatItGotBack() {
        Check.says("7: less what it got back");
        Fund x = new Fund();
        for (int round = 0; round < 20; round++) {
            x.giveInParts(7, 100000);
            Check.due("full again", 100000, x.inByBook(7));
            x.leave(7);
            Check.due("empty again", 0, x.inByBook(7));
        }
        x.give(7, 1);
        Check.due("the least after much", 1, x.inByBook(7));
    }

    private static void bookLessWhatWentOut() {
        Check.says("7: and what went out of its money");
        Fund x = Fund.with(5, 0, 3, 0, 3, 3);
        x.fillPot(100000);
        x.proveAndRelease();
        int[] left = {0, 1, 0, 1, 2, 0, 0, 0};
        for (int giver = 0; giver < 8; giver++) {
            Check.due("the match is not of its money: giver " + giver, left[giver], x.inByBook(giver));
        }
        x.leave(4);
        x.addMilestone(2);
        x.proveAndRelease();
        for (int giver = 0; giver < 8; giver++) {
            Check.due("all gone: giver " + giver, 0, x.inByBook(giver));
        }
    }

    private static void bookNoSuchGiver() {
        Check.says("7: Throws IndexOutOfBoundsException as told");
        Fund x = Fund.with(5, 3, 4);
        for (int giver : Check.NOT_0_TO_7) {
            Check.refused(x, "inByBook(" + giver + ")", Check.NO_SUCH, f -> f.inByBook(giver));
        }
    }

    // ---- promise 8

    private static void totalFromEmptyToFull() {
        Check.says("The total is what all givers have in, together.");
        Fund x = new Fund();
        Check.asked(x, "empty", 0, Quorumfund::total);
        for (int giver = 0; giver < 8; giver++) {
            x.giveInParts(giver, 100000);
            Check.due("with giver " + giver, (giver + 1) * 100000, x.total());
        }
        Check.asked(x, "full", 800000, Quorumfund::total);
        x.outcome(f -> f.give(0, 1));
        Check.due("a refused gift is not in it", 800000, x.total());
        for (int giver = 0; giver < 8; giver++) {
            x.leave(giver);
            Check.due("without giver " + giver, (7 - giver) * 100000, x.total());
        }
    }
}
