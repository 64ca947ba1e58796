import java.util.ArrayList;
import java.util.List;

/**
 * A fund that keeps its calls, so that the same one can be made again, and that refuses a test which makes
 * more calls than the document promises anything about.
 */
final class Fund {
    static final int MOST_CALLS = 512;

    interface Call {
        Object on(Quorumfund fund);
    }

    private final Quorumfund fund = new Quorumfund();
    private final List<Call> calls = new ArrayList<>();

    /** With a milestone of this amount, and what the givers 0, 1 and so on have in. */
    static Fund with(int amount, int... gifts) {
        Fund made = new Fund();
        made.addMilestone(amount);
        for (int giver = 0; giver < gifts.length; giver++) {
            made.giveInParts(giver, gifts[giver]);
        }
        return made;
    }

    Object ask(Call call) {
        if (calls.size() == MOST_CALLS) {
            throw new AssertionError("the test makes more than " + MOST_CALLS + " calls of one object");
        }
        calls.add(call);
        return call.on(fund);
    }

    String outcome(Call call) {
        try {
            return String.valueOf(ask(call));
        } catch (RuntimeException e) {
            return "throws." + e.getClass().getSimpleName();
        }
    }

    int calls() {
        return calls.size();
    }

    Fund again() {
        Fund twin = new Fund();
        for (Call call : calls) {
            twin.outcome(call);
        }
        return twin;
    }

    // ---- several calls as one

    void giveInParts(int giver, int amount) {
        for (int left = amount; left > 0; left -= 10000) {
            give(giver, Math.min(left, 10000));
        }
    }

    void fillPotInParts(int amount) {
        for (int left = amount; left > 0; left -= 100000) {
            fillPot(Math.min(left, 100000));
        }
    }

    void addMilestones(int count, int amount) {
        for (int i = 0; i < count; i++) {
            addMilestone(amount);
        }
    }

    /** With the votes of all for yes; the proof must still be lacking. */
    int proveAndRelease() {
        prove(current());
        return voteYesAndRelease();
    }

    int voteYesAndRelease() {
        for (int giver = 0; giver < 8; giver++) {
            vote(giver, Quorumfund.YES);
        }
        return release();
    }

    // ---- the face

    int give(int giver, int amount) {
        return (int) ask(f -> f.give(giver, amount));
    }

    int leave(int giver) {
        return (int) ask(f -> f.leave(giver));
    }

    int trust(int giver, int other) {
        return (int) ask(f -> f.trust(giver, other));
    }

    int setPerson(int giver, int person) {
        return (int) ask(f -> f.setPerson(giver, person));
    }

    int in(int giver) {
        return (int) ask(f -> f.in(giver));
    }

    int inByBook(int giver) {
        return (int) ask(f -> f.inByBook(giver));
    }

    int total() {
        return (int) ask(Quorumfund::total);
    }

    int fillPot(int amount) {
        return (int) ask(f -> f.fillPot(amount));
    }

    int pot() {
        return (int) ask(Quorumfund::pot);
    }

    int addMilestone(int amount) {
        return (int) ask(f -> f.addMilestone(amount));
    }

    boolean prove(int milestone) {
        return (boolean) ask(f -> f.prove(milestone));
    }

    int current() {
        return (int) ask(Quorumfund::current);
    }

    int vote(int giver, int vote) {
        return (int) ask(f -> f.vote(giver, vote));
    }

    int speaker(int giver) {
        return (int) ask(f -> f.speaker(giver));
    }

    int weight(int vote) {
        return (int) ask(f -> f.weight(vote));
    }

    int share(int giver) {
        return (int) ask(f -> f.share(giver));
    }

    int match() {
        return (int) ask(Quorumfund::match);
    }

    int matchByPairs() {
        return (int) ask(Quorumfund::matchByPairs);
    }

    int release() {
        return (int) ask(Quorumfund::release);
    }

    int out() {
        return (int) ask(Quorumfund::out);
    }
}
