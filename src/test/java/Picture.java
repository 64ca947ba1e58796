/** All that can be asked of a fund, as a text; what it must change to find out it puts back. */
final class Picture {
    private Picture() {
    }

    static String of(Quorumfund fund) {
        StringBuilder text = new StringBuilder();
        for (int giver = 0; giver < 8; giver++) {
            int one = giver;
            text.append(" in ").append(fund.in(giver)).append(" book ").append(fund.inByBook(giver));
            text.append(" speaker ").append(fund.speaker(giver));
            text.append(" share ").append(Check.outcome(() -> fund.share(one)));
            text.append(" trusts ").append(trustedBy(fund, giver));
            text.append(" person ").append(personOf(fund, giver));
            text.append(" vote ").append(voteOf(fund, giver)).append('\n');
        }
        for (int milestone = 0; milestone < 6; milestone++) {
            text.append(" proved ").append(proofOf(fund, milestone));
        }
        text.append(" total ").append(fund.total()).append(" pot ").append(fund.pot());
        text.append(" current ").append(fund.current()).append(" out ").append(fund.out());
        text.append(" yes ").append(fund.weight(Quorumfund.YES)).append(" no ").append(fund.weight(Quorumfund.NO));
        text.append(" match ").append(Check.outcome(fund::match));
        text.append(" by pairs ").append(Check.outcome(fund::matchByPairs));
        return text.toString();
    }

    private static int trustedBy(Quorumfund fund, int giver) {
        int other = fund.trust(giver, Quorumfund.NONE);
        fund.trust(giver, other);
        return other;
    }

    private static int personOf(Quorumfund fund, int giver) {
        int person = fund.setPerson(giver, 0);
        fund.setPerson(giver, person);
        return person;
    }

    private static String voteOf(Quorumfund fund, int giver) {
        if (fund.current() == Quorumfund.NONE) {
            return "cannot";
        }
        int vote = fund.vote(giver, Quorumfund.SILENT);
        fund.vote(giver, vote);
        return String.valueOf(vote);
    }

    private static String proofOf(Quorumfund fund, int milestone) {
        String turned = Check.outcome(() -> fund.prove(milestone));
        if (turned.startsWith("throws.")) {
            return turned;
        }
        return String.valueOf(fund.prove(milestone));
    }
}
