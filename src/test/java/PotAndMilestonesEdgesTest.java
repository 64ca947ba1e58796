/** Promises 9 to 13: a test for each sentence that names an edge, under the sentence's own words. */
public final class PotAndMilestonesEdgesTest {
    private static final int NONE = Quorumfund.NONE;
    private static final int[] NOT_AN_AMOUNT = {
        0, -1, 100001, -100000, 100002, 65536 * 2 + 1, 1000000, Integer.MIN_VALUE, Integer.MAX_VALUE,
    };

    public static void main(String[] args) {
        fillAmountInRange();
        fillReturnsWhatIsInItThen();
        fillAmountOutOfRange();
        fillMoreThanTheMost();
        fillTheMostIsOfWhatIsInItNow();
        potFromEmptyToFull();
        addAmountInRange();
        addReturnsItsNumber();
        addAmountOutOfRange();
        addASeventh();
        addASeventhAfterReleases();
        addedIsNeitherProvedNorReleased();
        proveOrTakeTheProofBack();
        proofsAreEachMilestonesOwn();
        proveNoSuchMilestone();
        proveReleased();
        proofMayComeAhead();
        currentNone();
        currentLowestNotReleased();
        Check.end();
    }

    // ---- promises 9 and 10

    private static void fillAmountInRange() {
        Check.says("9: amount: 1 to 100000");
        Check.due("the least", 1, new Fund().fillPot(1));
        Check.due("the most", 100000, new Fund().fillPot(100000));
    }

    private static void fillReturnsWhatIsInItThen() {
        Check.says("9: Returns what is in it then.");
        Fund x = Fund.with(4, 1, 1, 1, 1);
        Check.due("the first", 100000, x.fillPot(100000));
        Check.due("the second", 100001, x.fillPot(1));
        x.proveAndRelease();
        Check.due("after a match of 12", 100001 - 12 + 5, x.fillPot(5));
    }

    private static void fillAmountOutOfRange() {
        Check.says("9: Throws IllegalArgumentException if amount is out of range");
        Fund x = Fund.with(8, 1, 1, 1, 1, 1, 1, 1, 1);
        x.fillPot(3);
        for (int amount : NOT_AN_AMOUNT) {
            Check.refused(x, "fillPot(" + amount + ")", Check.BAD, f -> f.fillPot(amount));
        }
    }

    private static void fillMoreThanTheMost() {
        Check.says("9: Throws IllegalStateException if there would be more than 1000000");
        Fund x = new Fund();
        x.fillPotInParts(900000);
        Check.due("just the most", 1000000, x.again().fillPot(100000));
        x.fillPot(1);
        Check.refused(x, "one above the most", Check.STATE, f -> f.fillPot(100000));
        Check.due("just the most by 99999", 1000000, x.again().fillPot(99999));
        x.fillPot(99998);
        Check.refused(x, "one above the most by 2", Check.STATE, f -> f.fillPot(2));
        Check.due("just the most by 1", 1000000, x.fillPot(1));
        Check.refused(x, "above the most by 1", Check.STATE, f -> f.fillPot(1));
        Check.refused(x, "far above the most", Check.STATE, f -> f.fillPot(100000));
    }

    private static void fillTheMostIsOfWhatIsInItNow() {
        Check.says("9: Throws IllegalStateException if there would be more than 1000000");
        Fund x = Fund.with(8, 1, 1, 1, 1, 1, 1, 1, 1);
        x.fillPotInParts(1000000);
        x.proveAndRelease();
        Check.refused(x, "one above the most after a match of 56", Check.STATE, f -> f.fillPot(57));
        Check.due("up to the most again after it", 1000000, x.fillPot(56));
        Check.refused(x, "above the most after it", Check.STATE, f -> f.fillPot(1));
    }

    private static void potFromEmptyToFull() {
        Check.says("10: Returns what is in the pot.");
        Fund x = new Fund();
        Check.asked(x, "0 at first", 0, Quorumfund::pot);
        x.give(0, 10000);
        Check.due("no gift is in it", 0, x.pot());
        x.fillPotInParts(1000000);
        Check.asked(x, "full", 1000000, Quorumfund::pot);
        x.leave(0);
        Check.due("leaving takes nothing of it", 1000000, x.pot());
        Fund emptied = Fund.with(8, 1, 1, 1, 1, 1, 1, 1, 1);
        emptied.fillPot(56);
        emptied.proveAndRelease();
        Check.asked(emptied, "emptied", 0, Quorumfund::pot);
    }

    // ---- promise 11

    private static void addAmountInRange() {
        Check.says("11: amount: 1 to 100000");
        Fund least = Fund.with(1, 1);
        Check.due("the least is released", 1, least.proveAndRelease());
        Fund most = Fund.with(100000, 99999);
        Check.refused(most, "the most is not less", Check.NOTHING, f -> f.share(0));
        most.give(7, 1);
        Check.due("the most is released", 100000, most.proveAndRelease());
    }

    private static void addReturnsItsNumber() {
        Check.says("11: Returns its number.");
        Fund x = new Fund();
        x.give(0, 10);
        for (int milestone = 0; milestone < 6; milestone++) {
            Check.due("from 0 to 5", milestone, x.addMilestone(1));
            if (milestone == 2) {
                x.proveAndRelease();
            }
        }
    }

    private static void addAmountOutOfRange() {
        Check.says("11: Throws IllegalArgumentException if amount is out of range");
        Fund x = new Fund();
        for (int amount : NOT_AN_AMOUNT) {
            Check.refused(x, "addMilestone(" + amount + ")", Check.BAD, f -> f.addMilestone(amount));
        }
        x.addMilestones(5, 3);
        for (int amount : NOT_AN_AMOUNT) {
            Check.refused(x, "as the sixth: " + amount, Check.BAD, f -> f.addMilestone(amount));
        }
    }

    private static void addASeventh() {
        Check.says("11: Throws IllegalStateException if there are 6");
        Fund x = new Fund();
        x.addMilestones(5, 3);
        Check.due("the sixth", 5, x.addMilestone(1));
        Check.refused(x, "a seventh of 1", Check.STATE, f -> f.addMilestone(1));
        Check.refused(x, "a seventh of 100000", Check.STATE, f -> f.addMilestone(100000));
    }

    private static void addASeventhAfterReleases() {
        Check.says("11: Throws IllegalStateException if there are 6");
        Fund x = new Fund();
        x.give(0, 6);
        x.addMilestones(6, 1);
        for (int milestone = 0; milestone < 6; milestone++) {
            x.proveAndRelease();
            Check.refused(x, "released ones count: " + milestone, Check.STATE, f -> f.addMilestone(1));
        }
    }

    private static void addedIsNeitherProvedNorReleased() {
        Check.says("a milestone has an amount, is proved or not, and released or not");
        for (int milestone = 0; milestone < 6; milestone++) {
            Fund x = new Fund();
            x.addMilestones(milestone + 1, 1);
            Check.due("the first proof of " + milestone, true, x.prove(milestone));
        }
        Fund after = Fund.with(1, 9);
        after.proveAndRelease();
        after.addMilestone(1);
        Check.due("it is not released", 1, after.current());
        Check.due("it is not proved", true, after.prove(1));
    }

    // ---- promise 12

    private static void proveOrTakeTheProofBack() {
        Check.says("12: Proves a milestone, or takes the proof back. Returns true if it is proved then.");
        Fund x = Fund.with(1, 9);
        x.addMilestones(5, 1);
        for (int milestone = 0; milestone < 6; milestone++) {
            Check.due("proved", true, x.prove(milestone));
            Check.due("taken back", false, x.prove(milestone));
            Check.due("proved again", true, x.prove(milestone));
            Check.due("taken back again", false, x.prove(milestone));
        }
        x.vote(0, Quorumfund.YES);
        Check.refused(x, "a proof taken back is none", Check.STATE, Quorumfund::release);
        x.prove(0);
        Check.due("a proof given again is one", 1, x.release());
    }

    private static void proofsAreEachMilestonesOwn() {
        Check.says("12: Proves a milestone");
        for (int one = 0; one < 6; one++) {
            Fund x = new Fund();
            x.addMilestones(6, 1);
            x.prove(one);
            for (int milestone = 0; milestone < 6; milestone++) {
                Check.due(milestone + " beside " + one, milestone != one, x.prove(milestone));
            }
        }
    }

    private static void proveNoSuchMilestone() {
        Check.says("12: Throws IndexOutOfBoundsException as told");
        for (int count = 0; count <= 6; count++) {
            Fund x = new Fund();
            x.addMilestones(count, 1);
            for (int milestone = count; milestone <= 7; milestone++) {
                int none = milestone;
                Check.refused(x, none + " of " + count, Check.NO_SUCH, f -> f.prove(none));
            }
            for (int none : Check.NOT_0_TO_7) {
                Check.refused(x, none + " of " + count, Check.NO_SUCH, f -> f.prove(none));
            }
            if (count > 0) {
                Check.due("the last of " + count, true, x.prove(count - 1));
            }
        }
    }

    private static void proveReleased() {
        Check.says("12: Throws IllegalStateException if it is released");
        Fund x = new Fund();
        x.give(0, 6);
        x.addMilestones(6, 1);
        for (int milestone = 0; milestone < 6; milestone++) {
            int one = milestone;
            Check.asked(x, "the current one", true, f -> {
                boolean proved = f.prove(one);
                f.prove(one);
                return proved;
            });
            x.proveAndRelease();
            for (int released = 0; released <= milestone; released++) {
                int old = released;
                Check.refused(x, old + " after " + one, Check.STATE, f -> f.prove(old));
            }
        }
        Check.refused(x, "the one above the last released", Check.NO_SUCH, f -> f.prove(6));
        Check.refused(x, "the one below the first released", Check.NO_SUCH, f -> f.prove(-1));
    }

    private static void proofMayComeAhead() {
        Check.says("12: Proves a milestone");
        Fund x = Fund.with(1, 9);
        x.addMilestone(2);
        Check.due("ahead of its turn", true, x.prove(1));
        x.vote(0, Quorumfund.YES);
        Check.refused(x, "it does not prove the current one", Check.STATE, Quorumfund::release);
        x.proveAndRelease();
        Check.due("it still counts in its turn", 2, x.voteYesAndRelease());
    }

    // ---- promise 13

    private static void currentNone() {
        Check.says("13: NONE if there is none");
        Fund x = new Fund();
        x.give(0, 6);
        Check.asked(x, "no milestone", NONE, Quorumfund::current);
        for (int milestone = 0; milestone < 6; milestone++) {
            x.addMilestone(1);
            Check.asked(x, "one that is not released", milestone, Quorumfund::current);
            x.proveAndRelease();
            Check.asked(x, "all released", NONE, Quorumfund::current);
        }
    }

    private static void currentLowestNotReleased() {
        Check.says("the current one is the lowest one that is not released");
        Fund x = new Fund();
        x.give(0, 21);
        for (int milestone = 0; milestone < 6; milestone++) {
            x.addMilestone(milestone + 1);
            x.prove(milestone);
        }
        for (int milestone = 0; milestone < 6; milestone++) {
            Check.due("in the order of the numbers", milestone, x.current());
            x.outcome(Quorumfund::release);
            Check.due("a refused release does not move it", milestone, x.current());
            Check.due("with its own amount", milestone + 1, x.voteYesAndRelease());
        }
        Check.due("after the last", NONE, x.current());
    }
}
