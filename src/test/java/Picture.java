/** All that can be found out about a fund, as a text. The fund is used up by it. */
final class Picture {
    private Picture() {
    }

    static String of(Fund fund) {
        StringBuilder text = new StringBuilder();
        for (int giver = 0; giver < 8; giver++) {
            addGiver(text, fund, giver);
        }
        addRest(text, fund);
        for (int milestone = 0; milestone < 6; milestone++) {
            text.append(" proved ").append(proofOf(fund, milestone));
        }
        addFuture(text, fund);
        return text.toString();
    }

    private static void addGiver(StringBuilder text, Fund fund, int giver) {
        text.append(" in ").append(fund.in(giver)).append(" book ").append(fund.inByBook(giver));
        text.append(" speaker ").append(fund.speaker(giver));
        text.append(" share ").append(fund.outcome(f -> f.share(giver)));
        text.append(" trusts ").append(trustedBy(fund, giver));
        text.append(" person ").append(personOf(fund, giver));
        text.append(" vote ").append(voteOf(fund, giver)).append('\n');
    }

    private static void addRest(StringBuilder text, Fund fund) {
        text.append(" total ").append(fund.total()).append(" pot ").append(fund.pot());
        text.append(" current ").append(fund.current()).append(" out ").append(fund.out());
        text.append(" yes ").append(fund.weight(Quorumfund.YES)).append(" no ").append(fund.weight(Quorumfund.NO));
        text.append(" match ").append(fund.outcome(Quorumfund::match));
        text.append(" by pairs ").append(fund.outcome(Quorumfund::matchByPairs)).append('\n');
    }

    private static int trustedBy(Fund fund, int giver) {
        int other = fund.trust(giver, Quorumfund.NONE);
        fund.trust(giver, other);
        return other;
    }

    private static int personOf(Fund fund, int giver) {
        int person = fund.setPerson(giver, 0);
        fund.setPerson(giver, person);
        return person;
    }

    private static String voteOf(Fund fund, int giver) {
        String vote = fund.outcome(f -> f.vote(giver, Quorumfund.SILENT));
        if (!vote.startsWith("throws.")) {
            fund.vote(giver, Integer.parseInt(vote));
        }
        return vote;
    }

    private static String proofOf(Fund fund, int milestone) {
        String turned = fund.outcome(f -> f.prove(milestone));
        return turned.startsWith("throws.") ? turned : String.valueOf(fund.prove(milestone));
    }

    /** The amounts of later milestones show only when these are released. */
    private static void addFuture(StringBuilder text, Fund fund) {
        for (int round = 0; round < 6 && fund.current() != Quorumfund.NONE; round++) {
            topUp(fund);
            int milestone = fund.current();
            if (!fund.prove(milestone)) {
                fund.prove(milestone);
            }
            text.append(" release ").append(fund.voteYesAndRelease()).append(" pot ").append(fund.pot());
        }
    }

    /** Until more is in than the greatest amount of a milestone. */
    private static void topUp(Fund fund) {
        fund.outcome(f -> f.give(6, 10000));
        for (int i = 0; i < 10; i++) {
            fund.outcome(f -> f.give(7, 10000));
        }
    }
}
