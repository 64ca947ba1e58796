import java.math.BigInteger;
import java.util.ArrayList;
import java.util.HashSet;
import java.util.List;
import java.util.NoSuchElementException;
import java.util.Set;

/** The document a second time, in other words than the class: slow, with a journal in place of sums. */
final class Model {
    private record Entry(int giver, int money) {
    }

    private static final class Milestone {
        int amount;
        boolean proved;
        boolean released;
    }

    private final List<Entry> journal = new ArrayList<>();
    private final List<Milestone> milestones = new ArrayList<>();
    private final List<Integer> paid = new ArrayList<>();
    private final Integer[] trusted = new Integer[8];
    private final int[] person = {0, 1, 2, 3, 4, 5, 6, 7};
    private Integer[] voted = new Integer[8];
    private int inPot = 0;

    int give(int giver, int amount) {
        number(giver, 8);
        if (amount < 1 || amount > 10000) {
            throw new IllegalArgumentException();
        }
        if (in(giver) > 100000 - amount) {
            throw new IllegalStateException();
        }
        journal.add(new Entry(giver, amount));
        return in(giver);
    }

    int leave(int giver) {
        int back = in(giver);
        journal.add(new Entry(giver, -back));
        voted[giver] = null;
        return back;
    }

    int trust(int giver, int other) {
        number(giver, 8);
        if (other != -1) {
            number(other, 8);
        }
        Integer before = trusted[giver];
        trusted[giver] = other == -1 ? null : (Integer) other;
        if (hasRing()) {
            trusted[giver] = before;
            throw new IllegalStateException();
        }
        return before == null ? -1 : before;
    }

    private boolean hasRing() {
        for (int giver = 0; giver < 8; giver++) {
            Set<Integer> seen = new HashSet<>();
            for (Integer at = giver; at != null; at = trusted[at]) {
                if (!seen.add(at)) {
                    return true;
                }
            }
        }
        return false;
    }

    int setPerson(int giver, int to) {
        number(giver, 8);
        number(to, 8);
        int before = person[giver];
        person[giver] = to;
        return before;
    }

    int in(int giver) {
        number(giver, 8);
        return journal.stream().filter(entry -> entry.giver == giver).mapToInt(Entry::money).sum();
    }

    int total() {
        return journal.stream().mapToInt(Entry::money).sum();
    }

    int fillPot(int amount) {
        if (amount < 1 || amount > 100000) {
            throw new IllegalArgumentException();
        }
        if (inPot > 1000000 - amount) {
            throw new IllegalStateException();
        }
        inPot += amount;
        return inPot;
    }

    int pot() {
        return inPot;
    }

    int addMilestone(int amount) {
        if (amount < 1 || amount > 100000) {
            throw new IllegalArgumentException();
        }
        if (milestones.size() == 6) {
            throw new IllegalStateException();
        }
        Milestone milestone = new Milestone();
        milestone.amount = amount;
        milestones.add(milestone);
        return milestones.size() - 1;
    }

    boolean prove(int milestone) {
        number(milestone, milestones.size());
        Milestone one = milestones.get(milestone);
        if (one.released) {
            throw new IllegalStateException();
        }
        one.proved ^= true;
        return one.proved;
    }

    int current() {
        for (Milestone milestone : milestones) {
            if (!milestone.released) {
                return milestones.indexOf(milestone);
            }
        }
        return -1;
    }

    int vote(int giver, int vote) {
        number(giver, 8);
        if (vote < 0 || vote > 2) {
            throw new IllegalArgumentException();
        }
        if (current() == -1) {
            throw new IllegalStateException();
        }
        Integer before = voted[giver];
        voted[giver] = vote == 0 ? null : (Integer) vote;
        return before == null ? 0 : before;
    }

    int speaker(int giver) {
        number(giver, 8);
        if (voted[giver] != null) {
            return giver;
        }
        return trusted[giver] == null ? -1 : speaker(trusted[giver]);
    }

    int weight(int vote) {
        if (vote < 1 || vote > 2) {
            throw new IllegalArgumentException();
        }
        int sum = 0;
        for (int giver = 0; giver < 8; giver++) {
            sum += speaker(giver) != -1 && voted[speaker(giver)] == vote ? in(giver) : 0;
        }
        return sum;
    }

    int share(int giver) {
        number(giver, 8);
        return shares()[giver];
    }

    private int[] shares() {
        if (current() == -1 || total() < milestones.get(current()).amount) {
            throw new NoSuchElementException();
        }
        BigInteger amount = BigInteger.valueOf(milestones.get(current()).amount);
        int[] shares = new int[8];
        int lacking = amount.intValue();
        for (int giver = 0; giver < 8; giver++) {
            shares[giver] = amount.multiply(BigInteger.valueOf(in(giver))).divide(BigInteger.valueOf(total())).intValue();
            lacking -= shares[giver];
        }
        while (lacking > 0) {
            for (int giver = 0; giver < 8 && lacking > 0; giver++) {
                if (in(giver) > shares[giver]) {
                    shares[giver]++;
                    lacking--;
                }
            }
        }
        return shares;
    }

    int match() {
        int[] parts = new int[8];
        int[] shares = shares();
        for (int giver = 0; giver < 8; giver++) {
            parts[person[giver]] += shares[giver];
        }
        BigInteger sum = BigInteger.ZERO;
        for (int part : parts) {
            sum = sum.add(BigInteger.valueOf(part).sqrt());
        }
        int match = sum.multiply(sum).intValue() - milestones.get(current()).amount;
        return match < 0 ? 0 : match > inPot ? inPot : match;
    }

    int release() {
        if (current() == -1) {
            throw new IllegalStateException();
        }
        Milestone milestone = milestones.get(current());
        if (!milestone.proved || total() < milestone.amount || weight(1) <= total() - weight(1)) {
            throw new IllegalStateException();
        }
        int[] shares = shares();
        int match = match();
        for (int giver = 0; giver < 8; giver++) {
            journal.add(new Entry(giver, -shares[giver]));
        }
        inPot -= match;
        paid.add(milestone.amount);
        paid.add(match);
        milestone.released = true;
        voted = new Integer[8];
        return milestone.amount + match;
    }

    int out() {
        return paid.stream().mapToInt(Integer::intValue).sum();
    }

    private static void number(int number, int count) {
        if (number < 0 || number >= count) {
            throw new IndexOutOfBoundsException();
        }
    }
}
