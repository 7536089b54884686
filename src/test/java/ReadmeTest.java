import java.io.IOException;
import java.nio.file.Files;
import java.nio.file.Path;
import java.util.List;

/** The example of README.md: it answers what its comments say, and the calls here are those that stand there. */
final class ReadmeTest {
    private ReadmeTest() {
    }

    public static void main(String[] args) throws IOException {
        example();
        sameCallsAsInReadme();
        Check.end();
    }

    private static void example() {
        AntennaFill layout = new AntennaFill(2);
        int net = layout.net();
        Check.same("net", net, 0);
        boolean fresh = layout.shape(net, 1, 500, 500, 510, 510);
        Check.same("fresh", fresh, true);
        long gates = layout.gate(net, 1);
        Check.same("gates", gates, 1);
        long upper = layout.ratio(net, 1, 0);
        Check.same("upper", upper, 100);
        long lower = layout.ratio(net, 1, 1);
        Check.same("lower", lower, 1);
        boolean other = layout.limit(1, 1, 3);
        Check.same("other", other, true);
        int over = layout.repair();
        Check.same("over", over, 0);
        int placed = layout.count(3);
        Check.same("placed", placed, 3);
        int x = layout.repaired(0, 2);
        Check.same("x", x, 477);
        int y = layout.repaired(0, 3);
        Check.same("y", y, 477);
        boolean changed = layout.bounds(0, 10, 50);
        Check.same("changed", changed, true);
        int pieces = layout.fill(0, 20, 5, 3);
        Check.same("pieces", pieces, 250);
        long left = layout.piece(0, 1, 0);
        Check.same("left", left, 25);
        int tile = layout.told(0);
        Check.same("tile", tile, -1);
        long covered = layout.density(0, 0, 0, 0);
        Check.same("covered", covered, 1);
        long whole = layout.density(0, 0, 0, 1);
        Check.same("whole", whole, 10);
        boolean wide = layout.shape(net, 1, 0, 0, 100, 40);
        Check.same("wide", wide, true);
        int slots = layout.slot(1, 10);
        Check.same("slots", slots, 2);
        int low = layout.slotAt(1, 10, 1, 1);
        Check.same("low", low, 22);
    }

    /** Each line of the example stands above, and the answer checked behind it is the one that README.md tells. */
    private static void sameCallsAsInReadme() throws IOException {
        List<String> here = Files.readAllLines(Path.of("src/test/java/ReadmeTest.java"));
        boolean inExample = false;
        int calls = 0;
        for (String line : Files.readAllLines(Path.of("README.md"))) {
            if (line.startsWith("```")) {
                inExample = line.equals("```java");
            } else if (inExample && !line.isBlank()) {
                calls++;
                sameLine(line, here);
            }
        }
        Check.same("calls of the example", calls, 20);
    }

    private static void sameLine(String line, List<String> here) {
        String[] parts = line.split("//");
        String call = parts[0].strip();
        int at = here.indexOf("        " + call);
        Check.same("stands here: " + call, at >= 0, true);
        if (at < 0 || call.contains("new AntennaFill")) {
            return;
        }
        String name = call.substring(call.indexOf(' ') + 1, call.indexOf(" ="));
        String answer = parts[1].strip().split("[:, ]")[0];
        String due = "        Check.same(\"" + name + "\", " + name + ", " + answer + ");";
        Check.same("checked here: " + due.strip(), here.get(at + 1).equals(due), true);
    }
}
