import java.util.NoSuchElementException;

/** Promises 17 to 21. */
public final class WhatGoesOutTest {
    private static final Class<IndexOutOfBoundsException> NO_SUCH = IndexOutOfBoundsException.class;
    private static final Class<NoSuchElementException> NOTHING = NoSuchElementException.class;
    private static final Class<IllegalStateException> STATE = IllegalStateException.class;
    private static final int[] NO_GIVERS = {-1, 8, Integer.MIN_VALUE, Integer.MAX_VALUE};

    public static void main(String[] args) {
        promise17Share();
        promise17ShareOfLargeSums();
        promise17SkipsWhoHasNoMore();
        promises17To19Refusals();
        promises18And19Match();
        promises18And19Persons();
        promises18And19Bounds();
        promises18And19LargestRoots();
        promise20Release();
        promise20Refusals();
        promise20AtTheEdges();
        promise20ChangesNothingElse();
        promise21Out();
        Check.end();
    }

    private static Quorumfund with(int amount, int... gifts) {
        Quorumfund x = new Quorumfund();
        x.addMilestone(amount);
        for (int giver = 0; giver < gifts.length; giver++) {
            giveInParts(x, giver, gifts[giver]);
        }
        return x;
    }

    private static void giveInParts(Quorumfund x, int giver, int gift) {
        for (int left = gift; left > 0; left -= 10000) {
            x.give(giver, Math.min(left, 10000));
        }
    }

    private static void shares(String what, Quorumfund x, int... want) {
        int sum = 0;
        for (int giver = 0; giver < 8; giver++) {
            int due = giver < want.length ? want[giver] : 0;
            Check.due(what + ": share(" + giver + ")", due, x.share(giver));
            sum += x.share(giver);
        }
        int together = 0;
        for (int due : want) {
            together += due;
        }
        Check.due(what + ": together", together, sum);
    }

    private static void promise17Share() {
        shares("even", with(60, 100, 50, 150), 20, 10, 30);
        shares("one is lacking", with(60, 100, 50, 51), 30, 15, 15);
        shares("two are lacking", with(2, 10, 10, 10), 1, 1, 0);
        shares("lacking goes to the lowest with money", with(5, 0, 3, 0, 3, 3), 0, 2, 0, 2, 1);
        shares("all of the total", with(18, 1, 7, 10), 1, 7, 10);
        shares("one alone", with(9, 0, 0, 0, 0, 0, 0, 0, 10), 0, 0, 0, 0, 0, 0, 0, 9);
        shares("seven of eight", with(7, 9, 9, 9, 9, 9, 9, 9, 9), 1, 1, 1, 1, 1, 1, 1, 0);
        shares("a giver without a fraction may get it too", with(3, 2, 1, 1, 2), 2, 0, 0, 1);
    }

    private static void promise17ShareOfLargeSums() {
        shares("large", with(99999, 100000, 100000, 100000, 100000, 100000, 100000, 100000, 100000),
                12500, 12500, 12500, 12500, 12500, 12500, 12500, 12499);
        shares("above an int", with(100000, 100000, 99999), 50001, 49999);
    }

    private static void promise17SkipsWhoHasNoMore() {
        shares("less one of the total", with(5, 1, 2, 3), 1, 2, 2);
        shares("a share of nothing at first", with(1, 1, 1, 1), 1, 0, 0);
    }

    private static void promises17To19Refusals() {
        Quorumfund x = new Quorumfund();
        x.give(0, 50);
        nothing("no milestone", x);
        x.addMilestone(51);
        nothing("one lacks", x);
        x.give(1, 1);
        Check.due("just enough", 50, x.share(0));
        Check.due("just enough for a match", 0, x.match());
        Check.due("just enough for a match by pairs", 0, x.matchByPairs());
        for (int giver : NO_GIVERS) {
            Check.refused(x, "share: no giver " + giver, NO_SUCH, () -> x.share(giver));
        }
        x.prove(0);
        x.vote(0, Quorumfund.YES);
        x.release();
        nothing("all released", x);
    }

    private static void nothing(String what, Quorumfund x) {
        for (int giver = 0; giver < 8; giver++) {
            int one = giver;
            Check.refused(x, what + ": share", NOTHING, () -> x.share(one));
        }
        for (int giver : NO_GIVERS) {
            Check.refused(x, what + ": no giver first", NO_SUCH, () -> x.share(giver));
        }
        Check.refused(x, what + ": match", NOTHING, x::match);
        Check.refused(x, what + ": matchByPairs", NOTHING, x::matchByPairs);
    }

    /** By pairs first: it must not lean on what match() has left behind. */
    private static void matches(String what, Quorumfund x, int want) {
        Check.due(what + ": matchByPairs()", want, x.matchByPairs());
        Check.due(what + ": match()", want, x.match());
    }

    private static void promises18And19Match() {
        Quorumfund x = with(60, 100, 50, 51);
        matches("an empty pot", x, 0);
        x.fillPot(1000);
        matches("5 and 3 and 3", x, 121 - 60);
        Quorumfund squares = with(50, 1, 49);
        squares.fillPot(1000);
        matches("1 and 7", squares, 64 - 50);
        Quorumfund below = with(51, 3, 48);
        below.fillPot(1000);
        matches("1 and 6", below, 0);
    }

    private static void promises18And19Persons() {
        Quorumfund x = with(60, 100, 50, 51);
        x.fillPot(1000);
        x.setPerson(2, 1);
        matches("5 and 5", x, 100 - 60);
        x.setPerson(0, 7);
        matches("the number of the person is all one", x, 100 - 60);
        x.setPerson(1, 7);
        x.setPerson(2, 7);
        matches("one person, 7", x, 0);
        x.setPerson(1, 0);
        x.setPerson(2, 2);
        matches("each for itself again", x, 121 - 60);
    }

    private static void promises18And19Bounds() {
        Quorumfund x = with(8, 1, 1, 1, 1, 1, 1, 1, 1);
        x.fillPot(55);
        matches("one less in the pot", x, 55);
        x.fillPot(1);
        matches("just that in the pot", x, 56);
        x.fillPot(1);
        matches("one more in the pot", x, 56);
        Quorumfund alone = with(10, 10);
        alone.fillPot(100);
        matches("not below 0", alone, 0);
        Quorumfund square = with(9, 10);
        square.fillPot(100);
        matches("just 0", square, 0);
    }

    private static void promises18And19LargestRoots() {
        int[] gifts = new int[8];
        java.util.Arrays.fill(gifts, 100000);
        Quorumfund x = with(100000, gifts);
        for (int i = 0; i < 10; i++) {
            x.fillPot(100000);
        }
        matches("eight times 111", x, 888 * 888 - 100000);
        for (int root = 0; root <= 316; root++) {
            rootOf(root * root, root);
            rootOf(root * root - 1, root - 1);
        }
        rootOf(100000, 316);
        rootOf(99999, 316);
    }

    /** A giver with this part beside one with 1: the match tells the root of the part. */
    private static void rootOf(int part, int root) {
        if (part < 1 || part > 100000 || part + 1 > 100000) {
            return;
        }
        Quorumfund x = with(part + 1, 0, part, 1);
        x.fillPot(100000);
        int want = Math.max(0, (root + 1) * (root + 1) - part - 1);
        matches("the root of " + part, x, want);
    }

    private static void promise20Release() {
        Quorumfund x = with(60, 100, 50, 51);
        x.addMilestone(20);
        x.fillPot(1000);
        x.vote(0, Quorumfund.NO);
        x.vote(1, Quorumfund.YES);
        x.vote(2, Quorumfund.YES);
        x.prove(0);
        Check.due("release()", 121, x.release());
        Check.due("in(0)", 70, x.in(0));
        Check.due("in(1)", 35, x.in(1));
        Check.due("in(2)", 36, x.in(2));
        Check.due("in(3)", 0, x.in(3));
        for (int giver = 0; giver < 8; giver++) {
            Check.due("by book", x.in(giver), x.inByBook(giver));
        }
        Check.due("pot()", 939, x.pot());
        Check.due("out()", 121, x.out());
        Check.due("current()", 1, x.current());
        Check.due("yes", 0, x.weight(Quorumfund.YES));
        Check.due("no", 0, x.weight(Quorumfund.NO));
        Check.due("the next is not proved", true, x.prove(1));
    }

    private static void promise20Refusals() {
        Quorumfund x = new Quorumfund();
        Check.refused(x, "no milestone", STATE, x::release);
        x.addMilestone(50);
        x.give(0, 49);
        x.vote(0, Quorumfund.YES);
        x.prove(0);
        Check.refused(x, "not enough in", STATE, x::release);
        x.give(0, 1);
        x.prove(0);
        Check.refused(x, "not proved", STATE, x::release);
        x.prove(0);
        x.vote(0, Quorumfund.NO);
        Check.refused(x, "no", STATE, x::release);
        x.vote(0, Quorumfund.SILENT);
        Check.refused(x, "silent", STATE, x::release);
        x.vote(0, Quorumfund.YES);
        Check.due("all right", 50, x.release());
        Check.refused(x, "all released", STATE, x::release);
    }

    private static void promise20AtTheEdges() {
        Quorumfund half = with(10, 10, 10);
        half.prove(0);
        half.vote(0, Quorumfund.YES);
        Check.refused(half, "half is not more", STATE, half::release);
        half.give(0, 1);
        Check.due("one more than half", 10, half.release());
        Quorumfund passed = with(10, 10, 9);
        passed.prove(0);
        passed.trust(0, 1);
        passed.vote(1, Quorumfund.YES);
        Check.due("votes are passed on", 10, passed.release());
        Quorumfund all = with(19, 10, 9);
        all.prove(0);
        all.vote(0, Quorumfund.YES);
        Check.due("all that is in", 19, all.release());
        Check.due("nothing is left", 0, all.total());
        Quorumfund second = with(5, 10);
        second.addMilestone(5);
        second.prove(1);
        second.vote(0, Quorumfund.YES);
        Check.refused(second, "the proof of another", STATE, second::release);
    }

    private static void promise20ChangesNothingElse() {
        Quorumfund x = with(5, 10, 3);
        x.addMilestone(2);
        x.addMilestone(2);
        x.setPerson(0, 3);
        x.trust(1, 0);
        x.prove(0);
        x.prove(1);
        x.vote(0, Quorumfund.YES);
        x.release();
        Check.due("the person stays", 3, x.setPerson(0, 3));
        Check.due("the trust stays", 0, x.trust(1, 0));
        Check.due("the proof of the next stays", false, x.prove(1));
        Check.due("the one after is unproved", true, x.prove(2));
    }

    private static void promise21Out() {
        Quorumfund x = with(4, 100, 100);
        Check.due("out() at first", 0, x.out());
        x.addMilestone(200 - 4);
        x.fillPot(7);
        x.vote(0, Quorumfund.YES);
        x.vote(1, Quorumfund.YES);
        x.prove(0);
        Check.due("a match of 0", 4, x.release());
        Check.due("out() after one", 4, x.out());
        x.vote(0, Quorumfund.YES);
        x.vote(1, Quorumfund.YES);
        x.prove(1);
        Check.due("the match is what the pot has", 203, x.release());
        Check.due("out() after two", 207, x.out());
        Check.due("the pot is empty", 0, x.pot());
        x.give(3, 8);
        x.leave(3);
        Check.due("what a giver gets back is not out", 207, x.out());
    }
}
