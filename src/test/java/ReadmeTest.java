import java.io.File;
import java.nio.file.Files;
import java.nio.file.Path;
import java.util.List;

/** README.md's example answers what it says there, and its table names every test. */
public final class ReadmeTest {
    private static List<String> lines;
    private static int shown = 0;

    public static void main(String[] args) throws Exception {
        lines = Files.readAllLines(Path.of("README.md"));
        example(new BranchPlay());
        long told = lines.stream().filter(line -> line.startsWith("x.")).count();
        Due.due("calls of the example that were made", shown, told);
        everyTestIsNamed();
        Due.finish();
    }

    private static void example(BranchPlay x) {
        shows("x.change(0, 0b001, 3, 6);", x.change(0, 0b001, 3, 6));
        shows("x.change(0, 0b010, 2, -1);", x.change(0, 0b010, 2, -1));
        shows("x.fix(1, 0);", x.fix(1, 0));
        shows("x.hang(1, 0);", x.hang(1, 0));
        shows("x.about(1, 4);", x.about(1, 4));
        shows("x.feed(0x65766572, 0x79203130, 0x3b000000, 0, 0);",
            x.feed(0x65766572, 0x79203130, 0x3b000000, 0, 0));
        shows("x.end(9);", x.end(9));
        shows("x.way(1);", x.way(1));
        shows("x.fault(0);", x.fault(0));
        shows("x.rule(1, 0);", x.rule(1, 0));
        shows("x.play(1);", x.play(1));
        shows("x.told(0, 2);", x.told(0, 2));
        shows("x.told(0, 3);", x.told(0, 3));
        shows("x.told(1, 2);", x.told(1, 2));
        shows("x.release(1, 0);", x.release(1, 0));
        shows("x.has(1);", x.has(1));
        shows("x.sum(0);", x.sum(0));
        shows("x.parts(0, 1);", x.parts(0, 1));
        shows("x.costs(1);", x.costs(1));
        shows("x.prices(1, 100, 2, 50);", x.prices(1, 100, 2, 50));
        shows("x.best(1, 2, 0, 5);", x.best(1, 2, 0, 5));
        shows("x.count(2);", x.count(2));
    }

    /** The page has the call on a line of its own, with its answer between "//" and the first ":". */
    private static void shows(String call, long got) {
        shown++;
        String line = lines.stream().filter(each -> each.startsWith(call)).findFirst().orElse("");
        String answer = line.replaceFirst("^.*// (-?\\d+):.*$", "$1");
        Due.due("README.md has an answer of " + call, answer.matches("-?\\d+") ? 1 : 0, 1);
        if (answer.matches("-?\\d+")) {
            Due.due(call, got, Long.parseLong(answer));
        }
    }

    private static void everyTestIsNamed() {
        String[] files = new File("src/test/java").list();
        Due.due("src/test/java is there", files == null ? 0 : 1, 1);
        for (String file : files == null ? new String[0] : files) {
            if (file.endsWith("Test.java")) {
                String row = "| `" + file.replace(".java", "") + "` |";
                Due.due("README.md has " + row, lines.stream().anyMatch(each -> each.startsWith(row)) ? 1 : 0, 1);
            }
        }
        Due.due("README.md names .ci/run", lines.contains(".ci/run") ? 1 : 0, 1);
    }
}
