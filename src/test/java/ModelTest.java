import java.util.function.Supplier;

/** Long runs of calls, the same ones each time: the class must answer as the model does. */
public final class ModelTest {
    private static final int RUNS = 800;
    private static final int CALLS_KEPT_FOR_THE_END = 50;
    private static final int[] ODD = {-1, -2, 8, 9, 0, 10000, 10001, 100000, 100001, Integer.MAX_VALUE, Integer.MIN_VALUE};

    private long seed;
    private final Fund fund = new Fund();
    private final Model model = new Model();
    private final int largest;
    private int released = 0;

    private ModelTest(int run) {
        seed = run * 7919L + 1;
        // Small gifts meet the edges of shares and roots more often, large ones the limits.
        largest = new int[] {3, 40, 1000, 10000}[run % 4];
    }

    public static void main(String[] args) {
        int released = 0;
        for (int run = 0; run < RUNS; run++) {
            ModelTest one = new ModelTest(run);
            one.run("run " + run);
            released += one.released;
        }
        Check.due("enough releases to mean something", true, released > RUNS * 3);
        Check.end();
    }

    private void run(String name) {
        while (fund.calls() < Fund.MOST_CALLS - CALLS_KEPT_FOR_THE_END) {
            step(name + " call " + fund.calls());
        }
        wholeState(name + " at the end");
    }

    private int below(int bound) {
        seed = seed * 6364136223846793005L + 1442695040888963407L;
        return (int) ((seed >>> 33) % bound);
    }

    private int number() {
        return below(25) == 0 ? ODD[below(ODD.length)] : below(8);
    }

    private int amount(int most) {
        return below(25) == 0 ? ODD[below(ODD.length)] : 1 + below(most);
    }

    private void step(String at) {
        int a = number();
        int b = below(3) == 0 ? -1 : number();
        switch (below(24)) {
            case 0, 1, 2, 3, 4 -> give(at, a);
            case 5 -> leaveOrAsk(at, a);
            case 6, 7 -> same(at + " trust " + a + " " + b, f -> f.trust(a, b), () -> model.trust(a, b));
            case 8 -> same(at + " person " + a + " " + b, f -> f.setPerson(a, b), () -> model.setPerson(a, b));
            case 9 -> fillPot(at);
            case 10 -> addMilestone(at);
            case 11, 12 -> prove(at);
            case 13, 14, 15, 16 -> vote(at, a);
            case 17 -> same(at + " speaker " + a, f -> f.speaker(a), () -> model.speaker(a));
            case 18 -> same(at + " weight " + (b % 4), f -> f.weight(b % 4), () -> model.weight(b % 4));
            case 19 -> same(at + " share " + a, f -> f.share(a), () -> model.share(a));
            case 20 -> matches(at);
            case 21 -> sums(at);
            default -> release(at);
        }
    }

    private void same(String what, Fund.Call call, Supplier<Object> due) {
        Check.due(what, outcome(due), fund.outcome(call));
    }

    private static String outcome(Supplier<Object> due) {
        try {
            return String.valueOf(due.get());
        } catch (RuntimeException e) {
            return "throws." + e.getClass().getSimpleName();
        }
    }

    private void give(String at, int giver) {
        int amount = amount(largest);
        same(at + " give " + giver + " " + amount, f -> f.give(giver, amount), () -> model.give(giver, amount));
    }

    private void leaveOrAsk(String at, int giver) {
        if (below(3) == 0) {
            same(at + " leave " + giver, f -> f.leave(giver), () -> model.leave(giver));
        } else {
            money(at, giver);
        }
    }

    private void money(String at, int giver) {
        same(at + " in " + giver, f -> f.in(giver), () -> model.in(giver));
        same(at + " inByBook " + giver, f -> f.inByBook(giver), () -> model.in(giver));
    }

    private void fillPot(String at) {
        int amount = amount(largest * 10);
        same(at + " fillPot " + amount, f -> f.fillPot(amount), () -> model.fillPot(amount));
    }

    private void addMilestone(String at) {
        int amount = amount(largest * 10);
        same(at + " addMilestone " + amount, f -> f.addMilestone(amount), () -> model.addMilestone(amount));
    }

    private void prove(String at) {
        int milestone = below(3) == 0 ? number() : model.current();
        same(at + " prove " + milestone, f -> f.prove(milestone), () -> model.prove(milestone));
    }

    private void vote(String at, int giver) {
        int vote = below(20) == 0 ? ODD[below(ODD.length)] : new int[] {0, 1, 1, 1, 1, 2}[below(6)];
        same(at + " vote " + giver + " " + vote, f -> f.vote(giver, vote), () -> model.vote(giver, vote));
    }

    private void matches(String at) {
        same(at + " matchByPairs", Quorumfund::matchByPairs, model::match);
        same(at + " match", Quorumfund::match, model::match);
    }

    private void release(String at) {
        int before = model.current();
        same(at + " release", Quorumfund::release, model::release);
        if (model.current() != before) {
            released++;
            sums(at);
        }
    }

    private void sums(String at) {
        same(at + " total", Quorumfund::total, model::total);
        same(at + " pot", Quorumfund::pot, model::pot);
        same(at + " out", Quorumfund::out, model::out);
        same(at + " current", Quorumfund::current, model::current);
    }

    private void wholeState(String at) {
        sums(at);
        matches(at);
        for (int giver = 0; giver < 8; giver++) {
            int one = giver;
            money(at, one);
            same(at + " speaker " + one, f -> f.speaker(one), () -> model.speaker(one));
            same(at + " share " + one, f -> f.share(one), () -> model.share(one));
        }
    }
}
