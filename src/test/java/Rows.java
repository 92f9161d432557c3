import java.util.stream.LongStream;

/** Rows for a Script that differ in a number alone, or that many runs begin with. */
final class Rows {
    private static final int CELLS = 16;

    private Rows() {
    }

    /** The rows once for each number from the first to the last, filled in as withNumber does. */
    static String each(int first, int last, String rows) {
        return forThese(rows, LongStream.rangeClosed(first, last).toArray());
    }

    /** The rows once for each of these numbers, filled in as withNumber does. */
    static String forThese(String rows, long... numbers) {
        StringBuilder all = new StringBuilder();
        for (long n : numbers) {
            all.append(withNumber(rows, n)).append('\n');
        }
        return all.toString();
    }

    /** '#' in the rows becomes the number, '#+1' one more, '#-1' one less. */
    private static String withNumber(String rows, long n) {
        return rows.replace("#+1", String.valueOf(n + 1)).replace("#-1", String.valueOf(n - 1))
            .replace("#", String.valueOf(n));
    }

    /** On a desk where all cells are 0 at clock 0 and 0 is not open: each cell is n at clock n, up to the last. */
    static String writeAllCells(int commits) {
        StringBuilder all = new StringBuilder();
        for (int clock = 1; clock <= commits; clock++) {
            all.append("begin(0) 0\n");
            all.append(writeCells(0, CELLS, clock - 1, clock));
            all.append("commit(0) ").append(clock).append('\n');
        }
        return all.toString();
    }

    /** The first so many cells get the value, which were another one before. */
    static String writeCells(int t, int cells, long before, long value) {
        return each(0, cells - 1, "write(" + t + ", #, " + value + ") " + before);
    }
}
