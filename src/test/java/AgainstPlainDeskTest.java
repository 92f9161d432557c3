import java.util.ArrayList;
import java.util.List;

/** Runs of 512 drawn calls, the same each time, on a VersionDesk and a PlainDesk: the answers must agree. */
public final class AgainstPlainDeskTest {
    private static final int RUNS = 1500;
    private static final int CALLS = 512;
    private static final int ROWS_SHOWN = 12;

    private long state = 20261115L;

    public static void main(String[] args) {
        AgainstPlainDeskTest test = new AgainstPlainDeskTest();
        for (int run = 0; run < RUNS; run++) {
            if (!test.agrees(run)) {
                System.exit(1);
            }
        }
        System.out.println(RUNS + " runs of " + CALLS + " calls agree");
    }

    private boolean agrees(int run) {
        VersionDesk desk = new VersionDesk();
        PlainDesk plain = new PlainDesk();
        // Few numbers and cells bring transactions into each other's way, many fill the desk.
        int numbers = run % 3 == 0 ? 16 : 2 + draw(5);
        int cells = run % 4 == 0 ? 16 : 1 + draw(6);
        int endings = 1 + draw(12);
        List<String> rows = new ArrayList<>();
        for (int i = 0; i < CALLS; i++) {
            Call call = new Call(drawCall(numbers, cells, endings));
            String got = call.answerOf(desk);
            String due = call.answerOf(plain);
            rows.add(call + " " + got);
            if (!got.equals(due)) {
                tell(run, rows, due);
                return false;
            }
        }
        return true;
    }

    private static void tell(int run, List<String> rows, String due) {
        System.out.println("run " + run + ", " + rows.size() + " calls, the last ones:");
        rows.subList(Math.max(0, rows.size() - ROWS_SHOWN), rows.size()).forEach(System.out::println);
        System.out.println("due is " + due);
    }

    private String drawCall(int numbers, int cells, int endings) {
        int t = drawOrEdge(numbers);
        int cell = drawOrEdge(cells);
        int kind = draw(60);
        if (kind < endings) {
            return draw(4) == 0 ? "drop(" + t + ")" : "commit(" + t + ")";
        }
        switch (kind % 15) {
            case 0: case 1: return draw(numbers) == 0 ? "begin(2)" : "begin(" + draw(2) + ")";
            case 2: case 3: return "read(" + t + ", " + cell + ")";
            case 4: case 5: case 6: case 7: return "write(" + t + ", " + cell + ", " + drawValue() + ")";
            case 8: return "push(" + t + ")";
            case 9: return "pop(" + t + ", " + (draw(2) == 0) + ")";
            case 10: return "spoiled(" + t + ")";
            case 11: return "meets(" + t + ", " + drawOrEdge(numbers) + ")";
            case 12: return "past(" + cell + ", " + (draw(40) - 1) + ")";
            case 13: return draw(4) == 0 ? "forget()" : "count(" + (draw(6) - 1) + ")";
            default: return "about(" + t + ", " + (draw(8) - 1) + ")";
        }
    }

    private long drawValue() {
        switch (draw(12)) {
            case 0: return Long.MIN_VALUE;
            case 1: return Long.MAX_VALUE;
            default: return draw(5) - 2;
        }
    }

    private int drawOrEdge(int bound) {
        switch (draw(80)) {
            case 0: return -1;
            case 1: return 16;
            case 2: return Integer.MIN_VALUE;
            case 3: return Integer.MAX_VALUE;
            default: return draw(bound);
        }
    }

    private int draw(int bound) {
        state = state * 6364136223846793005L + 1442695040888963407L;
        return (int) ((state >>> 33) % bound);
    }
}
