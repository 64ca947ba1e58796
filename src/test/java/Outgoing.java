/** What would go out of a fund, held against what is due. */
final class Outgoing {
    private Outgoing() {
    }

    /** Of the givers 0, 1 and so on; those that are not named have none. */
    static void shares(String what, Fund x, int... want) {
        for (int giver = 0; giver < 8; giver++) {
            int due = giver < want.length ? want[giver] : 0;
            Check.due(what + ": share(" + giver + ")", due, x.share(giver));
        }
    }

    /** By pairs first: it must not lean on what match() has left behind. */
    static void matches(String what, Fund x, int want) {
        Check.due(what + ": matchByPairs()", want, x.matchByPairs());
        Check.due(what + ": match()", want, x.match());
    }

    /** Neither shares nor matches can be asked for. */
    static void nothing(String what, Fund x) {
        for (int giver = 0; giver < 8; giver++) {
            int one = giver;
            Check.refused(x, what + ": share(" + one + ")", Check.NOTHING, f -> f.share(one));
        }
        Check.refused(x, what + ": match()", Check.NOTHING, Quorumfund::match);
        Check.refused(x, what + ": matchByPairs()", Check.NOTHING, Quorumfund::matchByPairs);
    }
}
