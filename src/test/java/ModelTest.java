/** Long runs of calls, the same ones each time: the class must answer as the model does. */
public final class ModelTest {
    private static final int RUNS = 400;
    private static final int CALLS = 512;
    private static final int[] ODD = {-1, -2, 8, 9, 0, 10000, 10001, 100000, 100001, Integer.MAX_VALUE, Integer.MIN_VALUE};

    private long seed;
    private final Quorumfund fund = new Quorumfund();
    private final Model model = new Model();
    private final int largest;
    private int released = 0;

    private ModelTest(int run) {
        seed = run * 7919L + 1;
        // Small gifts meet the edges of shares and roots more often, large ones the limits.
        largest = new int[] {3, 40, 1000, 10000}[run % 4];
    }

    public static void main(String[] args) {
        int released = 0;
        for (int run = 0; run < RUNS; run++) {
            ModelTest one = new ModelTest(run);
            for (int call = 0; call < CALLS; call++) {
                one.step("run " + run + " call " + call);
            }
            released += one.released;
        }
        Check.due("enough releases to mean something", true, released > RUNS * 3);
        Check.end();
    }

    private int below(int bound) {
        seed = seed * 6364136223846793005L + 1442695040888963407L;
        return (int) ((seed >>> 33) % bound);
    }

    private int number() {
        return below(25) == 0 ? ODD[below(ODD.length)] : below(8);
    }

    private int amount(int most) {
        return below(25) == 0 ? ODD[below(ODD.length)] : 1 + below(most);
    }

    private void step(String at) {
        int a = number();
        int b = below(3) == 0 ? -1 : number();
        switch (below(24)) {
            case 0, 1, 2, 3, 4 -> give(at, a);
            case 5 -> leaveOrAsk(at, a);
            case 6, 7 -> same(at + " trust " + a + " " + b, () -> fund.trust(a, b), () -> model.trust(a, b));
            case 8 -> same(at + " person " + a + " " + b, () -> fund.setPerson(a, b), () -> model.setPerson(a, b));
            case 9 -> fillPot(at);
            case 10 -> addMilestone(at);
            case 11, 12 -> prove(at);
            case 13, 14, 15, 16 -> vote(at, a);
            case 17 -> same(at + " speaker " + a, () -> fund.speaker(a), () -> model.speaker(a));
            case 18 -> same(at + " weight " + (b % 4), () -> fund.weight(b % 4), () -> model.weight(b % 4));
            case 19 -> same(at + " share " + a, () -> fund.share(a), () -> model.share(a));
            case 20 -> same(at + " match", fund::match, model::match);
            case 21 -> same(at + " matchByPairs", fund::matchByPairs, model::match);
            default -> release(at);
        }
        sums(at);
    }

    private void same(String what, Check.Call call, Check.Call due) {
        Check.due(what, Check.outcome(due), Check.outcome(call));
    }

    private void give(String at, int giver) {
        int amount = amount(largest);
        same(at + " give " + giver + " " + amount, () -> fund.give(giver, amount), () -> model.give(giver, amount));
    }

    private void leaveOrAsk(String at, int giver) {
        if (below(3) == 0) {
            same(at + " leave " + giver, () -> fund.leave(giver), () -> model.leave(giver));
        } else {
            same(at + " in " + giver, () -> fund.in(giver), () -> model.in(giver));
            same(at + " inByBook " + giver, () -> fund.inByBook(giver), () -> model.in(giver));
        }
    }

    private void fillPot(String at) {
        int amount = amount(largest * 10);
        same(at + " fillPot " + amount, () -> fund.fillPot(amount), () -> model.fillPot(amount));
    }

    private void addMilestone(String at) {
        int amount = amount(largest * 10);
        same(at + " addMilestone " + amount, () -> fund.addMilestone(amount), () -> model.addMilestone(amount));
    }

    private void prove(String at) {
        int milestone = below(3) == 0 ? number() : model.current();
        same(at + " prove " + milestone, () -> fund.prove(milestone), () -> model.prove(milestone));
    }

    private void vote(String at, int giver) {
        int vote = below(20) == 0 ? ODD[below(ODD.length)] : new int[] {0, 1, 1, 1, 1, 2}[below(6)];
        same(at + " vote " + giver + " " + vote, () -> fund.vote(giver, vote), () -> model.vote(giver, vote));
    }

    private void release(String at) {
        int before = fund.current();
        same(at + " release", fund::release, model::release);
        if (fund.current() != before) {
            released++;
        }
    }

    private void sums(String at) {
        Check.due(at + ": total", model.total(), fund.total());
        Check.due(at + ": pot", model.pot(), fund.pot());
        Check.due(at + ": out", model.out(), fund.out());
        Check.due(at + ": current", model.current(), fund.current());
        int giver = below(8);
        Check.due(at + ": in " + giver, model.in(giver), fund.in(giver));
        Check.due(at + ": inByBook " + giver, model.in(giver), fund.inByBook(giver));
    }
}
