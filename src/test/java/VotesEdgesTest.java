/** Promises 14 to 16: a test for each sentence that names an edge, under the sentence's own words. */
public final class VotesEdgesTest {
    private static final int NONE = Quorumfund.NONE;
    private static final int SILENT = Quorumfund.SILENT;
    private static final int YES = Quorumfund.YES;
    private static final int NO = Quorumfund.NO;
    private static final int[] NO_VOTES = {-1, 3, -2, 4, 256, 257, 65537, Integer.MIN_VALUE, Integer.MAX_VALUE};

    public static void main(String[] args) {
        voteInPlaceOfAnEarlierOne();
        voteSilentTakesAVoteBack();
        voteOfOneWithNothingIn();
        voteNoSuchGiver();
        voteNoSuchVote();
        voteNoCurrentMilestone();
        votesAreGoneAfterARelease();
        votesStayWithoutARelease();
        speakerItself();
        speakerNone();
        speakerOverTheLongestRow();
        speakerIsTheFirst();
        speakerNoSuchGiver();
        weightNothing();
        weightAll();
        weightOfEachRow();
        weightOfMoneyThatComesAndGoes();
        weightNeitherYesNorNo();
        Check.end();
    }

    private static Fund inARow() {
        Fund x = Fund.with(1, 1, 2, 4, 8, 16, 32, 64, 128);
        for (int giver = 0; giver < 7; giver++) {
            x.trust(giver, giver + 1);
        }
        return x;
    }

    // ---- promise 14

    private static void voteInPlaceOfAnEarlierOne() {
        Check.says("14: Votes for the current milestone, in place of an earlier vote. Returns the vote before.");
        for (int giver = 0; giver < 8; giver++) {
            for (int before = SILENT; before <= NO; before++) {
                for (int then = SILENT; then <= NO; then++) {
                    Fund x = Fund.with(1);
                    Check.due("none at first", SILENT, x.vote(giver, before));
                    Check.due("before " + before, before, x.vote(giver, then));
                    Check.due("then " + then, then, x.vote(giver, SILENT));
                    Check.due("of another", SILENT, x.vote((giver + 1) % 8, YES));
                }
            }
        }
    }

    private static void voteSilentTakesAVoteBack() {
        Check.says("14: vote: SILENT (which takes a vote back), YES or NO");
        Fund x = Fund.with(1, 10);
        for (int vote = YES; vote <= NO; vote++) {
            x.vote(0, vote);
            Check.due("it speaks", 0, x.speaker(0));
            Check.due("it weighs", 10, x.weight(vote));
            x.vote(0, SILENT);
            Check.due("it speaks no more", NONE, x.speaker(0));
            Check.due("it weighs no more", 0, x.weight(vote));
        }
        Check.asked(x, "no vote to take back", SILENT, f -> f.vote(0, SILENT));
    }

    private static void voteOfOneWithNothingIn() {
        Check.says("14: Votes for the current milestone");
        Fund x = Fund.with(1, 10);
        x.trust(0, 1);
        Check.due("one with nothing in", SILENT, x.vote(1, YES));
        Check.due("it weighs nothing itself, but for who trusts it", 10, x.weight(YES));
        x.leave(1);
        Check.due("after leaving", SILENT, x.vote(1, NO));
        Check.due("and for who trusts it", 10, x.weight(NO));
    }

    private static void voteNoSuchGiver() {
        Check.says("14: Throws IndexOutOfBoundsException as told");
        Fund x = Fund.with(1, 10);
        x.vote(0, YES);
        for (int giver : Check.NOT_0_TO_7) {
            for (int vote = SILENT; vote <= NO; vote++) {
                int one = vote;
                Check.refused(x, "vote(" + giver + ", " + one + ")", Check.NO_SUCH, f -> f.vote(giver, one));
            }
        }
    }

    private static void voteNoSuchVote() {
        Check.says("14: Throws IllegalArgumentException if there is no such vote");
        Fund x = Fund.with(1, 10);
        x.vote(0, YES);
        for (int vote : NO_VOTES) {
            Check.refused(x, "vote(0, " + vote + ")", Check.BAD, f -> f.vote(0, vote));
            Check.refused(x, "vote(7, " + vote + ")", Check.BAD, f -> f.vote(7, vote));
        }
    }

    private static void voteNoCurrentMilestone() {
        Check.says("14: Throws IllegalStateException if there is no current milestone");
        Fund x = new Fund();
        x.give(0, 6);
        for (int milestone = 0; milestone < 6; milestone++) {
            noVote(x, "before milestone " + milestone);
            x.addMilestone(1);
            Check.due("with one", SILENT, x.vote(0, YES));
            x.proveAndRelease();
        }
        noVote(x, "after the last");
    }

    private static void noVote(Fund x, String when) {
        for (int vote = SILENT; vote <= NO; vote++) {
            int one = vote;
            Check.refused(x, when + ": vote(0, " + one + ")", Check.STATE, f -> f.vote(0, one));
            Check.refused(x, when + ": vote(7, " + one + ")", Check.STATE, f -> f.vote(7, one));
        }
    }

    private static void votesAreGoneAfterARelease() {
        Check.says("when it is released all votes are gone");
        Fund next = Fund.with(1, 10);
        next.addMilestone(1);
        releaseWithAllVotes(next);
        votesAreGone(next);
        Fund later = Fund.with(1, 10);
        releaseWithAllVotes(later);
        for (int giver = 0; giver < 8; giver++) {
            Check.due("speaker without a current one", NONE, later.speaker(giver));
        }
        Check.due("yes without a current one", 0, later.weight(YES));
        Check.due("no without a current one", 0, later.weight(NO));
        later.addMilestone(1);
        votesAreGone(later);
    }

    private static void releaseWithAllVotes(Fund x) {
        x.prove(x.current());
        x.give(7, 1);
        for (int giver = 0; giver < 8; giver++) {
            x.vote(giver, giver % 2 == 0 ? YES : NO);
        }
        x.release();
    }

    private static void votesAreGone(Fund x) {
        for (int giver = 0; giver < 8; giver++) {
            Check.due("speaker " + giver, NONE, x.speaker(giver));
        }
        Check.due("yes", 0, x.weight(YES));
        Check.due("no", 0, x.weight(NO));
        for (int giver = 0; giver < 8; giver++) {
            Check.due("vote " + giver, SILENT, x.vote(giver, SILENT));
        }
    }

    private static void votesStayWithoutARelease() {
        Check.says("when it is released all votes are gone");
        Fund x = Fund.with(10, 10, 9);
        x.vote(0, NO);
        x.vote(7, YES);
        x.prove(0);
        x.outcome(Quorumfund::release);
        x.addMilestone(1);
        x.give(0, 1);
        x.trust(0, 7);
        x.setPerson(0, 7);
        x.fillPot(5);
        Check.due("of giver 0", NO, x.vote(0, NO));
        Check.due("of giver 7", YES, x.vote(7, YES));
    }

    // ---- promise 15

    private static void speakerItself() {
        Check.says("The speaker of a giver is the first one in the row of the giver itself");
        for (int vote = YES; vote <= NO; vote++) {
            Fund x = inARow();
            for (int giver = 0; giver < 8; giver++) {
                x.vote(giver, vote);
            }
            for (int giver = 0; giver < 8; giver++) {
                int one = giver;
                Check.asked(x, "all have voted " + vote, giver, f -> f.speaker(one));
            }
        }
    }

    private static void speakerNone() {
        Check.says("15: NONE if there is none.");
        Fund x = inARow();
        for (int giver = 0; giver < 8; giver++) {
            int one = giver;
            Check.asked(x, "nobody has voted", NONE, f -> f.speaker(one));
        }
        for (int vote = YES; vote <= NO; vote++) {
            x.vote(3, vote);
            for (int giver = 0; giver < 8; giver++) {
                Check.due("giver 3 has voted, for " + giver, giver <= 3 ? 3 : NONE, x.speaker(giver));
            }
        }
        x.vote(3, SILENT);
        Check.due("the vote is taken back", NONE, x.speaker(0));
    }

    private static void speakerOverTheLongestRow() {
        Check.says("the one whom it trusts, the one whom that one trusts, and so on, that has voted");
        Fund up = inARow();
        up.vote(7, NO);
        for (int giver = 0; giver < 8; giver++) {
            Check.due("up from " + giver, 7, up.speaker(giver));
        }
        Fund down = Fund.with(1);
        for (int giver = 1; giver < 8; giver++) {
            down.trust(giver, giver - 1);
        }
        down.vote(0, YES);
        for (int giver = 0; giver < 8; giver++) {
            Check.due("down from " + giver, 0, down.speaker(giver));
        }
    }

    private static void speakerIsTheFirst() {
        Check.says("The speaker of a giver is the first one in the row .. that has voted");
        for (int first = 0; first < 8; first++) {
            Fund x = inARow();
            for (int giver = first; giver < 8; giver++) {
                x.vote(giver, giver % 2 == 0 ? YES : NO);
            }
            for (int giver = 0; giver < 8; giver++) {
                Check.due(giver + " from " + first + " on", Math.max(giver, first), x.speaker(giver));
            }
        }
    }

    private static void speakerNoSuchGiver() {
        Check.says("15: Throws IndexOutOfBoundsException as told");
        Fund x = inARow();
        x.vote(7, YES);
        for (int giver : Check.NOT_0_TO_7) {
            Check.refused(x, "speaker(" + giver + ")", Check.NO_SUCH, f -> f.speaker(giver));
        }
    }

    // ---- promise 16

    private static void weightNothing() {
        Check.says("The weight of yes is what all givers have in whose speaker has voted yes, together");
        for (Fund x : new Fund[] {new Fund(), Fund.with(1), Fund.with(1, 5, 5)}) {
            Check.asked(x, "yes, no votes", 0, f -> f.weight(YES));
            Check.asked(x, "no, no votes", 0, f -> f.weight(NO));
        }
        Fund votes = Fund.with(1, 5);
        votes.vote(1, YES);
        votes.vote(2, NO);
        Check.due("yes, of one with nothing in", 0, votes.weight(YES));
        Check.due("no, of one with nothing in", 0, votes.weight(NO));
    }

    private static void weightAll() {
        Check.says("The weight of yes is what all givers have in .. together; that of no likewise.");
        for (int vote = YES; vote <= NO; vote++) {
            int one = vote;
            Fund x = Fund.with(1, 100000, 100000, 100000, 100000, 100000, 100000, 100000, 100000);
            for (int giver = 0; giver < 8; giver++) {
                x.vote(giver, vote);
            }
            Check.asked(x, "all for " + vote, 800000, f -> f.weight(one));
            Check.asked(x, "none against " + vote, 0, f -> f.weight(YES + NO - one));
        }
    }

    private static void weightOfEachRow() {
        Check.says("The weight of yes is what all givers have in whose speaker has voted yes");
        for (int yes = 0; yes < 8; yes++) {
            for (int no = 0; no < 8; no++) {
                if (yes != no) {
                    Fund x = inARow();
                    x.vote(yes, YES);
                    x.vote(no, NO);
                    Check.due("yes of " + yes + ", no of " + no, heardBefore(yes, no), x.weight(YES));
                    Check.due("no of " + no + ", yes of " + yes, heardBefore(no, yes), x.weight(NO));
                }
            }
        }
    }

    /** In the row each giver trusts the next one and has 1 << its number in: who hears this one first? */
    private static int heardBefore(int voter, int other) {
        int upToVoter = (2 << voter) - 1;
        return other < voter ? upToVoter - ((2 << other) - 1) : upToVoter;
    }

    private static void weightOfMoneyThatComesAndGoes() {
        Check.says("The weight of yes is what all givers have in");
        Fund x = Fund.with(1, 10, 5);
        x.vote(0, YES);
        x.trust(1, 0);
        x.give(1, 3);
        Check.due("a gift after the vote", 18, x.weight(YES));
        x.leave(1);
        Check.due("one who trusts has left", 10, x.weight(YES));
        x.give(1, 3);
        x.leave(0);
        Check.due("the speaker has left", 0, x.weight(YES));
    }

    private static void weightNeitherYesNorNo() {
        Check.says("16: Throws IllegalArgumentException if it is neither");
        Fund open = inARow();
        open.vote(3, YES);
        for (Fund x : new Fund[] {open, new Fund()}) {
            Check.refused(x, "weight(SILENT)", Check.BAD, f -> f.weight(SILENT));
            for (int vote : NO_VOTES) {
                Check.refused(x, "weight(" + vote + ")", Check.BAD, f -> f.weight(vote));
            }
        }
    }
}
