/** The terms that hold for every call: a test for each sentence that names an edge, under its own words. */
public final class TermsEdgesTest {
    private static final int NONE = Quorumfund.NONE;
    private static final int YES = Quorumfund.YES;

    private interface OfGiver {
        Object on(Quorumfund fund, int giver);
    }

    private static final String[] NAMES = {
        "give", "leave", "trust", "trust NONE", "trust in", "setPerson", "person",
        "in", "inByBook", "vote", "vote SILENT", "speaker", "share",
    };
    private static final OfGiver[] CALLS = {
        (f, giver) -> f.give(giver, 1),
        Quorumfund::leave,
        (f, giver) -> f.trust(giver, giver == 0 ? 1 : 0),
        (f, giver) -> f.trust(giver, NONE),
        (f, giver) -> f.trust(giver == 0 ? 1 : 0, giver),
        (f, giver) -> f.setPerson(giver, 0),
        (f, giver) -> f.setPerson(0, giver),
        Quorumfund::in,
        Quorumfund::inByBook,
        (f, giver) -> f.vote(giver, YES),
        (f, giver) -> f.vote(giver, Quorumfund.SILENT),
        Quorumfund::speaker,
        Quorumfund::share,
    };

    public static void main(String[] args) {
        giversAndPersons0To7();
        noSuchGiverOrPerson();
        giveFirstException();
        trustFirstException();
        setPersonFirstException();
        fillPotFirstException();
        addMilestoneFirstException();
        voteFirstException();
        shareFirstException();
        refusalsMayBeRepeated();
        askingChangesNothing();
        theLastCallOfMoney();
        theLastCallOfRefusals();
        theLastCallOfTurns();
        theLastCallOfThePot();
        theLastCallIsARelease();
        Check.end();
    }

    // ---- givers and persons

    private static void giversAndPersons0To7() {
        Check.says("There are the givers 0 to 7.");
        for (int call = 0; call < CALLS.length; call++) {
            OfGiver one = CALLS[call];
            for (int giver = 0; giver < 8; giver++) {
                int number = giver;
                String outcome = Fund.with(1, 5).outcome(f -> one.on(f, number));
                Check.due(NAMES[call] + " of " + giver + " throws nothing", false, outcome.startsWith("throws."));
            }
        }
    }

    private static void noSuchGiverOrPerson() {
        Check.says("IndexOutOfBoundsException is thrown if there is no such giver, person or milestone.");
        Fund x = Fund.with(1, 5);
        for (int call = 0; call < CALLS.length; call++) {
            OfGiver one = CALLS[call];
            for (int number : Check.NOT_0_TO_7) {
                // As the one who is trusted, NONE is no giver but is allowed.
                if (!NAMES[call].equals("trust in") || number != NONE) {
                    Check.refused(x, NAMES[call] + " of " + number, Check.NO_SUCH, f -> one.on(f, number));
                }
            }
        }
    }

    // ---- which exception comes first

    private static void giveFirstException() {
        Check.says("the one that its throws clause names first is thrown: give");
        Fund x = Fund.with(1, 100000);
        for (int giver : Check.NOT_0_TO_7) {
            Check.refused(x, "giver " + giver + ", amount 0", Check.NO_SUCH, f -> f.give(giver, 0));
            Check.refused(x, "giver " + giver + ", amount 10001", Check.NO_SUCH, f -> f.give(giver, 10001));
        }
        for (int amount : new int[] {0, 10001, Integer.MAX_VALUE, Integer.MIN_VALUE}) {
            Check.refused(x, "full, amount " + amount, Check.BAD, f -> f.give(0, amount));
        }
        Check.refused(x, "only full", Check.STATE, f -> f.give(0, 1));
    }

    private static void trustFirstException() {
        Check.says("the one that its throws clause names first is thrown: trust");
        Fund x = new Fund();
        x.trust(0, 1);
        for (int number : Check.NOT_0_TO_7) {
            Check.refused(x, number + " in itself", Check.NO_SUCH, f -> f.trust(number, number));
            Check.refused(x, number + " in 8", Check.NO_SUCH, f -> f.trust(number, 8));
        }
        Check.refused(x, "only over others", Check.STATE, f -> f.trust(1, 0));
        Check.refused(x, "only in itself", Check.STATE, f -> f.trust(1, 1));
    }

    private static void setPersonFirstException() {
        Check.says("the one that its throws clause names first is thrown: setPerson");
        Check.refused(new Fund(), "neither below", Check.NO_SUCH, f -> f.setPerson(-1, -1));
        Check.refused(new Fund(), "neither above", Check.NO_SUCH, f -> f.setPerson(8, 8));
    }

    private static void fillPotFirstException() {
        Check.says("the one that its throws clause names first is thrown: fillPot");
        Fund x = new Fund();
        x.fillPotInParts(1000000);
        for (int amount : new int[] {0, -1, 100001, Integer.MAX_VALUE, Integer.MIN_VALUE}) {
            Check.refused(x, "full, amount " + amount, Check.BAD, f -> f.fillPot(amount));
        }
        Check.refused(x, "only full", Check.STATE, f -> f.fillPot(1));
    }

    private static void addMilestoneFirstException() {
        Check.says("the one that its throws clause names first is thrown: addMilestone");
        Fund x = new Fund();
        x.addMilestones(6, 1);
        for (int amount : new int[] {0, -1, 100001, Integer.MAX_VALUE, Integer.MIN_VALUE}) {
            Check.refused(x, "six, amount " + amount, Check.BAD, f -> f.addMilestone(amount));
        }
        Check.refused(x, "only six", Check.STATE, f -> f.addMilestone(1));
    }

    private static void voteFirstException() {
        Check.says("the one that its throws clause names first is thrown: vote");
        Fund none = new Fund();
        Fund open = Fund.with(1);
        for (int giver : Check.NOT_0_TO_7) {
            Check.refused(none, "all three, giver " + giver, Check.NO_SUCH, f -> f.vote(giver, 3));
            Check.refused(none, "no milestone, giver " + giver, Check.NO_SUCH, f -> f.vote(giver, YES));
            Check.refused(open, "no such vote, giver " + giver, Check.NO_SUCH, f -> f.vote(giver, -1));
        }
        Check.refused(none, "no milestone, vote 3", Check.BAD, f -> f.vote(0, 3));
        Check.refused(none, "no milestone, vote -1", Check.BAD, f -> f.vote(7, -1));
        Check.refused(none, "only no milestone", Check.STATE, f -> f.vote(0, YES));
    }

    private static void shareFirstException() {
        Check.says("the one that its throws clause names first is thrown: share");
        Fund below = Fund.with(2, 1);
        for (int giver : Check.NOT_0_TO_7) {
            Check.refused(new Fund(), "no milestone, giver " + giver, Check.NO_SUCH, f -> f.share(giver));
            Check.refused(below, "not enough, giver " + giver, Check.NO_SUCH, f -> f.share(giver));
        }
        Check.refused(below, "only not enough", Check.NOTHING, f -> f.share(0));
    }

    // ---- what changes nothing

    private static void refusalsMayBeRepeated() {
        Check.says("a call that throws changes nothing");
        Fund x = Fund.with(6, 5);
        x.prove(0);
        x.vote(0, YES);
        x.trust(1, 0);
        String before = Picture.of(x.again());
        for (int i = 0; i < 15; i++) {
            x.outcome(f -> f.give(0, 0));
            x.outcome(f -> f.leave(8));
            x.outcome(f -> f.trust(0, 1));
            x.outcome(f -> f.setPerson(0, 8));
            x.outcome(f -> f.fillPot(0));
            x.outcome(f -> f.addMilestone(0));
            x.outcome(f -> f.prove(1));
            x.outcome(f -> f.vote(0, 3));
            x.outcome(f -> f.weight(0));
            x.outcome(f -> f.share(0));
            x.outcome(Quorumfund::match);
            x.outcome(Quorumfund::matchByPairs);
            x.outcome(Quorumfund::release);
        }
        Check.due("after many", before, Picture.of(x));
    }

    private static void askingChangesNothing() {
        Check.says("ask what is in, who speaks for whom, and what would go out");
        Fund x = Fund.with(6, 5, 4, 3);
        x.addMilestone(1);
        x.fillPot(9);
        x.trust(1, 0);
        x.vote(0, YES);
        String before = Picture.of(x.again());
        for (int giver = 0; giver < 8; giver++) {
            x.in(giver);
            x.inByBook(giver);
            x.speaker(giver);
            x.share(giver);
            x.match();
            x.matchByPairs();
            x.weight(YES);
            x.weight(Quorumfund.NO);
            x.total();
            x.pot();
            x.current();
            x.out();
        }
        Check.due("after asking all", before, Picture.of(x));
    }

    // ---- as many calls as are promised

    private static void isLast(Fund x) {
        Check.says("An object is used for at most 512 calls after it has been made");
        Check.due("calls so far", Fund.MOST_CALLS - 1, x.calls());
    }

    private static void theLastCallOfMoney() {
        Fund x = new Fund();
        for (int i = 0; i < 255; i++) {
            x.give(7, 10000);
            x.leave(7);
        }
        x.give(7, 10000);
        isLast(x);
        Check.due("inByBook after 256 gifts of 10000", 10000, x.inByBook(7));
    }

    private static void theLastCallOfRefusals() {
        Fund x = new Fund();
        for (int i = 0; i < 511; i++) {
            x.outcome(f -> f.give(0, 0));
        }
        isLast(x);
        Check.due("give after 511 refusals", 10000, x.give(0, 10000));
    }

    private static void theLastCallOfTurns() {
        Fund proofs = Fund.with(1);
        for (int i = 0; i < 510; i++) {
            proofs.prove(0);
        }
        isLast(proofs);
        Check.due("prove after 510 turns", true, proofs.prove(0));
        Fund votes = Fund.with(1, 7);
        for (int i = 0; i < 509; i++) {
            votes.vote(0, i % 3);
        }
        isLast(votes);
        Check.due("weight after 509 votes", 7, votes.weight(508 % 3));
        Fund trusts = new Fund();
        for (int i = 0; i < 511; i++) {
            trusts.trust(i % 7, i % 2 == 0 ? 7 : NONE);
        }
        isLast(trusts);
        Check.due("trust after 511", 7, trusts.trust(510 % 7, NONE));
    }

    private static void theLastCallOfThePot() {
        Fund x = new Fund();
        for (int i = 0; i < 511; i++) {
            x.fillPot(1);
        }
        isLast(x);
        Check.due("fillPot after 511", 512, x.fillPot(1));
    }

    private static void theLastCallIsARelease() {
        Fund x = Fund.with(8, 1, 1, 1, 1, 1, 1, 1, 1);
        x.fillPot(100);
        x.prove(0);
        for (int giver = 0; giver < 8; giver++) {
            x.vote(giver, YES);
        }
        while (x.calls() < Fund.MOST_CALLS - 1) {
            x.matchByPairs();
        }
        isLast(x);
        Check.due("release", 64, x.release());
    }
}
