import java.util.ArrayList;
import java.util.List;
import java.util.Set;
import java.util.function.Predicate;

/**
 * Runs of calls on new objects, a call and its due answer a line: "pop(0, true) throws.IllegalStateException".
 *
 * Each run is made three times: whole; without the calls that throw; without the calls that only
 * look. The answers that are left must stay the same, for neither sort may change anything.
 */
final class Script {
    private static final int MOST_CALLS = 512;
    private static final Set<String> LOOKING = Set.of("spoiled", "meets", "past", "about", "count");

    private int runs = 0;
    private int rows = 0;
    private int wrong = 0;

    private record Row(Call call, String due) {
        boolean isThrowing() {
            return due.startsWith("throws.");
        }

        boolean isLooking() {
            return LOOKING.contains(call.name());
        }
    }

    void run(String title, String text) {
        List<Row> all = rowsOf(text);
        if (all.size() > MOST_CALLS) {
            throw new AssertionError(title + ": an object is used for at most " + MOST_CALLS + " calls");
        }
        playThrice(title, all);
    }

    /** For what no run of 512 calls reaches: the document leaves free what is answered there. */
    void runBeyondTheLimit(String title, String text) {
        playThrice(title, rowsOf(text));
    }

    void end() {
        System.out.println(runs + " runs, " + rows + " answers looked at, " + wrong + " not as due");
        System.exit(wrong == 0 ? 0 : 1);
    }

    private void playThrice(String title, List<Row> all) {
        play(title, all, row -> true);
        play(title + " (without what throws)", all, row -> !row.isThrowing());
        play(title + " (without what looks)", all, row -> !row.isLooking());
    }

    private void play(String title, List<Row> all, Predicate<Row> wanted) {
        VersionDesk desk = new VersionDesk();
        runs++;
        for (Row row : all) {
            if (wanted.test(row)) {
                look(title, row, row.call().answerOf(desk));
            }
        }
    }

    private void look(String title, Row row, String got) {
        rows++;
        if (!got.equals(row.due())) {
            wrong++;
            System.out.println(title + ": " + row.call() + " answered " + got + ", due is " + row.due());
        }
    }

    private static List<Row> rowsOf(String text) {
        List<Row> all = new ArrayList<>();
        for (String line : text.split("\n")) {
            String row = line.trim();
            if (!row.isEmpty()) {
                int bracket = row.indexOf(')');
                all.add(new Row(new Call(row.substring(0, bracket + 1)), row.substring(bracket + 1).trim()));
            }
        }
        return all;
    }
}
