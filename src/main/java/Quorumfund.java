import java.util.NoSuchElementException;

/** Money pooled by small givers, released by milestones that they vote on, and matched out of a pot. */
public final class Quorumfund {
    public static final int NONE = -1;
    public static final int SILENT = 0, YES = 1, NO = 2;

    private static final int GIVERS = 8;
    private static final int PERSONS = 8;
    private static final int MOST_MILESTONES = 6;
    private static final int MOST_GIFT = 10000;
    private static final int MOST_IN = 100000;
    private static final int MOST_FILLING = 100000;
    private static final int MOST_POT = 1000000;
    private static final int MOST_AMOUNT = 100000;
    // A part is at most MOST_AMOUNT, so its root is below 512 and needs the bits 0 to 8.
    private static final int HIGHEST_ROOT_BIT = 8;

    private final int[] kept;
    // The book stands beside what is kept, so that the two can be held against each other.
    private final int[] given;
    private final int[] gotBack;
    private final int[] wentOut;
    private final int[] trusted;
    private final int[] persons;
    private final int[] votes;

    private final int[] amounts;
    private final boolean[] proofs;
    private int added;
    private int released;
    private int potMoney;
    private int outMoney;

    // Scratch rows: made once, so that no call makes an array.
    private final int[] shares;
    private final int[] roots;

    // ---- promise 1

    public Quorumfund() {
        kept = new int[GIVERS];
        given = new int[GIVERS];
        gotBack = new int[GIVERS];
        wentOut = new int[GIVERS];
        trusted = new int[GIVERS];
        persons = new int[GIVERS];
        votes = new int[GIVERS];
        amounts = new int[MOST_MILESTONES];
        proofs = new boolean[MOST_MILESTONES];
        shares = new int[GIVERS];
        roots = new int[PERSONS];
        for (int giver = 0; giver < GIVERS; giver++) {
            trusted[giver] = NONE;
            persons[giver] = giver;
            votes[giver] = SILENT;
        }
    }

    // ---- promises 2 to 8: givers

    public int give(int giver, int amount)
            throws IndexOutOfBoundsException, IllegalArgumentException, IllegalStateException {
        requireGiver(giver);
        requireAmount(amount, MOST_GIFT);
        if (kept[giver] + amount > MOST_IN) {
            throw new IllegalStateException("the giver would have too much in");
        }
        kept[giver] += amount;
        given[giver] += amount;
        return kept[giver];
    }

    public int leave(int giver) throws IndexOutOfBoundsException {
        requireGiver(giver);
        int back = kept[giver];
        kept[giver] = 0;
        gotBack[giver] += back;
        votes[giver] = SILENT;
        return back;
    }

    public int trust(int giver, int other) throws IndexOutOfBoundsException, IllegalStateException {
        requireGiver(giver);
        if (other != NONE) {
            requireGiver(other);
        }
        if (leadsTo(other, giver)) {
            throw new IllegalStateException("the giver would trust itself");
        }
        int before = trusted[giver];
        trusted[giver] = other;
        return before;
    }

    public int setPerson(int giver, int person) throws IndexOutOfBoundsException {
        requireGiver(giver);
        if (person < 0 || person >= PERSONS) {
            throw new IndexOutOfBoundsException("no such person");
        }
        int before = persons[giver];
        persons[giver] = person;
        return before;
    }

    public int in(int giver) throws IndexOutOfBoundsException {
        requireGiver(giver);
        return kept[giver];
    }

    public int inByBook(int giver) throws IndexOutOfBoundsException {
        requireGiver(giver);
        return given[giver] - gotBack[giver] - wentOut[giver];
    }

    public int total() {
        int sum = 0;
        for (int giver = 0; giver < GIVERS; giver++) {
            sum += kept[giver];
        }
        return sum;
    }

    // ---- promises 9 to 13: the pot and milestones

    public int fillPot(int amount) throws IllegalArgumentException, IllegalStateException {
        requireAmount(amount, MOST_FILLING);
        if (potMoney + amount > MOST_POT) {
            throw new IllegalStateException("there would be too much in the pot");
        }
        potMoney += amount;
        return potMoney;
    }

    public int pot() {
        return potMoney;
    }

    public int addMilestone(int amount) throws IllegalArgumentException, IllegalStateException {
        requireAmount(amount, MOST_AMOUNT);
        if (added >= MOST_MILESTONES) {
            throw new IllegalStateException("there are as many milestones as there may be");
        }
        amounts[added] = amount;
        added++;
        return added - 1;
    }

    public boolean prove(int milestone) throws IndexOutOfBoundsException, IllegalStateException {
        if (milestone < 0 || milestone >= added) {
            throw new IndexOutOfBoundsException("no such milestone");
        }
        if (milestone < released) {
            throw new IllegalStateException("the milestone is released");
        }
        proofs[milestone] = !proofs[milestone];
        return proofs[milestone];
    }

    public int current() {
        // Milestones are released in the order of their numbers, so a count tells which ones are.
        return released < added ? released : NONE;
    }

    // ---- promises 14 to 16: votes

    public int vote(int giver, int vote)
            throws IndexOutOfBoundsException, IllegalArgumentException, IllegalStateException {
        requireGiver(giver);
        if (vote != SILENT && vote != YES && vote != NO) {
            throw new IllegalArgumentException("no such vote");
        }
        if (current() == NONE) {
            throw new IllegalStateException("no current milestone");
        }
        int before = votes[giver];
        votes[giver] = vote;
        return before;
    }

    public int speaker(int giver) throws IndexOutOfBoundsException {
        requireGiver(giver);
        return firstVoterFrom(giver);
    }

    public int weight(int vote) throws IllegalArgumentException {
        if (vote != YES && vote != NO) {
            throw new IllegalArgumentException("neither yes nor no");
        }
        int sum = 0;
        for (int giver = 0; giver < GIVERS; giver++) {
            if (heardVote(giver) == vote) {
                sum += kept[giver];
            }
        }
        return sum;
    }

    // ---- promises 17 to 21: what goes out

    public int share(int giver) throws IndexOutOfBoundsException, NoSuchElementException {
        requireGiver(giver);
        requireCovered();
        findShares(amounts[released]);
        return shares[giver];
    }

    public int match() throws NoSuchElementException {
        requireCovered();
        return currentMatch();
    }

    public int matchByPairs() throws NoSuchElementException {
        requireCovered();
        int amount = amounts[released];
        findShares(amount);
        findRoots();
        return withinPot(squareByPairs() - amount);
    }

    public int release() throws IllegalStateException {
        if (!isCovered() || !proofs[released]) {
            throw new IllegalStateException("no current milestone, or not proved, or not enough in");
        }
        if (2 * weight(YES) <= total()) {
            throw new IllegalStateException("not enough votes for yes");
        }
        int amount = amounts[released];
        int matched = currentMatch();
        payShares();
        potMoney -= matched;
        outMoney += amount + matched;
        released++;
        clearVotes();
        return amount + matched;
    }

    public int out() {
        return outMoney;
    }

    // ---- tests of arguments

    private static boolean isGiver(int giver) {
        return giver >= 0 && giver < GIVERS;
    }

    private static void requireGiver(int giver) {
        if (!isGiver(giver)) {
            throw new IndexOutOfBoundsException("no such giver");
        }
    }

    private static void requireAmount(int amount, int most) {
        if (amount < 1 || amount > most) {
            throw new IllegalArgumentException("the amount is out of range");
        }
    }

    // ---- rows of trust

    private boolean leadsTo(int from, int giver) {
        int at = from;
        // No row is longer than there are givers: nobody stands in one twice.
        for (int step = 0; step < GIVERS && isGiver(at); step++) {
            if (at == giver) {
                return true;
            }
            at = trusted[at];
        }
        return false;
    }

    private int firstVoterFrom(int giver) {
        int at = giver;
        for (int step = 0; step < GIVERS && isGiver(at); step++) {
            if (votes[at] != SILENT) {
                return at;
            }
            at = trusted[at];
        }
        return NONE;
    }

    private int heardVote(int giver) {
        int voter = firstVoterFrom(giver);
        return isGiver(voter) ? votes[voter] : SILENT;
    }

    private void clearVotes() {
        for (int giver = 0; giver < GIVERS; giver++) {
            votes[giver] = SILENT;
        }
    }

    // ---- shares

    // Where this answers true, the number of the current milestone is released.
    private boolean isCovered() {
        return current() != NONE && released < MOST_MILESTONES && total() >= amounts[released];
    }

    private void requireCovered() {
        if (!isCovered()) {
            throw new NoSuchElementException("no current milestone, or not enough in");
        }
    }

    private void findShares(int amount) {
        int total = total();
        int lacking = amount;
        for (int giver = 0; giver < GIVERS; giver++) {
            shares[giver] = roundedPart(amount, kept[giver], total);
            lacking -= shares[giver];
        }
        // One round is enough: less is lacking than there are givers whose share was rounded,
        // and each of these has more in than its share.
        for (int giver = 0; giver < GIVERS && lacking > 0; giver++) {
            if (kept[giver] > shares[giver]) {
                shares[giver]++;
                lacking--;
            }
        }
    }

    private static int roundedPart(int amount, int has, int total) {
        // The product may be above what an int holds.
        return total > 0 ? (int) ((long) amount * has / total) : 0;
    }

    private void payShares() {
        for (int giver = 0; giver < GIVERS; giver++) {
            kept[giver] -= shares[giver];
            wentOut[giver] += shares[giver];
        }
    }

    // ---- matches

    // Leaves the shares that belong to the match in their row, for release to pay.
    private int currentMatch() {
        int amount = amounts[released];
        findShares(amount);
        findRoots();
        return withinPot(squareOfSum() - amount);
    }

    private void findRoots() {
        for (int person = 0; person < PERSONS; person++) {
            roots[person] = rootOf(partOf(person));
        }
    }

    private int partOf(int person) {
        int part = 0;
        for (int giver = 0; giver < GIVERS; giver++) {
            if (persons[giver] == person) {
                part += shares[giver];
            }
        }
        return part;
    }

    private static int rootOf(int part) {
        int root = 0;
        for (int bit = HIGHEST_ROOT_BIT; bit >= 0; bit--) {
            int next = root + (1 << bit);
            if (next * next <= part) {
                root = next;
            }
        }
        return root;
    }

    private int squareOfSum() {
        int sum = 0;
        for (int person = 0; person < PERSONS; person++) {
            sum += roots[person];
        }
        return sum * sum;
    }

    private int squareByPairs() {
        int sum = 0;
        for (int one = 0; one < PERSONS; one++) {
            sum += roots[one] * roots[one];
            for (int other = one + 1; other < PERSONS; other++) {
                sum += 2 * roots[one] * roots[other];
            }
        }
        return sum;
    }

    private int withinPot(int wanted) {
        return Math.min(Math.max(wanted, 0), potMoney);
    }
}
