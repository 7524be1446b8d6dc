import java.io.IOException;
import java.nio.file.Files;
import java.nio.file.Path;

/** The calls that README.md shows answer what it says behind them. */
public final class ReadmeTest {
    private static int wrong = 0;
    private static int shown = 0;
    private static String readme = "";

    public static void main(String[] args) throws IOException {
        readme = Files.readString(Path.of("README.md"));
        example();
        due(shown == count("// "), "README.md shows " + count("// ") + " answers, this test knows " + shown);
        due(readme.contains(".ci/run"), "README.md does not say how to run the tests");
        System.out.println(shown + " answers of README.md looked at, " + wrong + " things wrong");
        if (wrong != 0) {
            System.exit(1);
        }
    }

    private static void example() {
        JuryTable table = new JuryTable();
        int entry = table.entry();
        answers("int entry = table.entry();", entry);
        table.bar(2, 7.5);
        table.mark(entry, 2, 8.0);
        answers("table.holds(true, entry, 2, 3);", table.holds(true, entry, 2, 3));
        answers("table.holds(true, entry, 0, 3);", table.holds(true, entry, 0, 3));
        answers("table.holds(true, entry, 0, 6);", table.holds(true, entry, 0, 6));
        answers("table.tally(true, entry, 5);", table.tally(true, entry, 5));
        answers("table.run(true, entry, 2, 3);", table.run(true, entry, 2, 3));
        answers("table.told(true, entry, 2);", table.told(true, entry, 2));
        answers("table.told(true, JuryTable.NONE, 2);", table.told(true, JuryTable.NONE, 2));
        answers("table.keep(true, entry, 2, 3);", table.keep(true, entry, 2, 3));
        answers("table.clear(true, entry, 2);", table.clear(true, entry, 2));
        answers("table.kept(true, entry, 2);", table.kept(true, entry, 2));
        answers("table.count(3);", table.count(3));
    }

    private static void answers(String call, Object answer) {
        shown++;
        String line = readme.lines().filter(l -> l.startsWith(call)).findFirst().orElse("");
        String told = line.isEmpty() ? "" : line.substring(call.length()).trim();
        due(told.equals("// " + answer) || told.startsWith("// " + answer + ": "),
                call + " answered " + answer + ", README.md says " + told);
    }

    private static int count(String text) {
        return readme.split(text, -1).length - 1;
    }

    private static void due(boolean so, String text) {
        if (!so) {
            wrong++;
            System.out.println(text);
        }
    }
}
