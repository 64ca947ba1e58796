import java.io.IOException;
import java.nio.file.Files;
import java.nio.file.Path;
import java.util.List;

/** The example of README.md: each call answers what stands behind it there. */
public final class ReadmeTest {
    private static final String[] TEXTS = {
        "give(0, 100)", "give(1, 50)", "fillPot(1000)", "addMilestone(60)", "trust(1, 0)",
        "vote(0, Quorumfund.YES)", "speaker(1)", "weight(Quorumfund.YES)", "prove(0)", "share(0)", "share(1)",
        "match()", "setPerson(1, 0)", "match()", "setPerson(1, 1)", "release()", "in(0)", "inByBook(0)",
        "total()", "pot()", "out()", "current()", "share(0)", "leave(1)",
    };
    private static final Fund.Call[] CALLS = {
        f -> f.give(0, 100), f -> f.give(1, 50), f -> f.fillPot(1000), f -> f.addMilestone(60), f -> f.trust(1, 0),
        f -> f.vote(0, Quorumfund.YES), f -> f.speaker(1), f -> f.weight(Quorumfund.YES), f -> f.prove(0),
        f -> f.share(0), f -> f.share(1), Quorumfund::match, f -> f.setPerson(1, 0), Quorumfund::match,
        f -> f.setPerson(1, 1), Quorumfund::release, f -> f.in(0), f -> f.inByBook(0), Quorumfund::total,
        Quorumfund::pot, Quorumfund::out, Quorumfund::current, f -> f.share(0), f -> f.leave(1),
    };

    public static void main(String[] args) throws IOException {
        Check.says("the example of README.md");
        List<String> lines = Files.readAllLines(Path.of("README.md")).stream()
                .filter(line -> line.startsWith("fund.")).toList();
        Check.due("lines of the example", CALLS.length, lines.size());
        Fund x = new Fund();
        for (int i = 0; i < Math.min(CALLS.length, lines.size()); i++) {
            String[] parts = lines.get(i).split("; +// ");
            Check.due("line " + i, "fund." + TEXTS[i], parts[0]);
            String answer = parts.length < 2 ? "nothing" : parts[1].split(":")[0].replace("throws ", "throws.");
            Check.due("what README.md says of " + parts[0], x.outcome(CALLS[i]), answer);
        }
        Check.end();
    }
}
