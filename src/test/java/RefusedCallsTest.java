import java.util.ArrayList;
import java.util.Arrays;
import java.util.List;
import java.util.stream.Collectors;

/**
 * "a call that throws changes nothing", and neither does one that only answers: of two objects with
 * the same calls behind them, one of which had such a call more, all that can be asked gets the
 * same answers.
 */
public final class RefusedCallsTest {
    private static final int MOST_CALLS = 512;

    /** 0 has 8 layers and is spoiled by what it wrote; 1 has one and is spoiled by what it saw; 3 has two. */
    private static final String ALL_OPEN = """
        begin(0)
        write(0, 1, 10)
        write(0, 2, 20)
        commit(0)
        begin(0)
        write(0, 1, 11)
        commit(0)
        forget()
        """ + "begin(0)\nbegin(1)\n".repeat(8) + """
        write(0, 1, 5)
        push(0)
        write(0, 2, 6)
        push(0)
        push(0)
        write(0, 3, 7)
        read(0, 4)
        push(0)
        push(0)
        push(0)
        push(0)
        write(0, 1, 8)
        read(1, 5)
        read(1, 1)
        write(1, 6, 9)
        write(2, 1, 50)
        write(2, 7, 50)
        commit(2)
        begin(1)
        read(2, 1)
        write(2, 1, 51)
        push(3)
        write(3, 5, 1)
        pop(3, true)
        push(3)
        read(3, 9)
        """;

    private static final String SOME_OPEN = ALL_OPEN + "drop(5)\ncommit(9)\n";

    /** 496 versions, which no 512 calls reach; 0 wrote five cells in two layers. */
    private static final String ALMOST_FULL = ("begin(0)\n" + Rows.each(0, 15, "write(0, #, 30)") + "commit(0)\n").repeat(30)
        + """
        begin(1)
        begin(1)
        read(0, 9)
        read(1, 0)
        write(0, 0, 1)
        write(0, 1, 1)
        write(0, 2, 1)
        push(0)
        write(0, 0, 2)
        write(0, 3, 2)
        write(0, 4, 2)
        """;

    private static final List<String> PROBES = List.of(
        Rows.each(0, 3, "count(#)") + Rows.each(0, 15, "past(#, 0)\npast(#, 1)\npast(#, 2)\npast(#, 3)\npast(#, 30)"),
        Rows.each(0, 15, "about(#, 0)\nabout(#, 1)\nabout(#, 2)\nabout(#, 3)\nabout(#, 4)\nabout(#, 5)\nspoiled(#)"),
        Rows.each(0, 15, "meets(0, #)\nmeets(1, #)\nmeets(2, #)\nmeets(3, #)\nmeets(#, 0)\nmeets(#, 1)\nmeets(#, 3)"),
        (readAll(0) + "about(0, 3)\nabout(0, 4)\npop(0, false)\n").repeat(9),
        (readAll(0) + "about(0, 3)\nabout(0, 4)\npop(0, true)\n").repeat(9),
        readAll(1) + readAll(2) + readAll(3) + "pop(3, false)\n" + readAll(3) + "about(1, 4)\nabout(3, 4)\npush(1)\n",
        Rows.each(0, 15, "commit(#)\ncount(0)\ncount(2)\ncount(3)") + Rows.each(0, 15, "past(#, 3)\npast(#, 4)\npast(#, 31)"),
        Rows.each(0, 15, "drop(#)\ncount(1)\ncount(3)\nforget()") + Rows.each(0, 15, "past(#, 2)\npast(#, 3)\npast(#, 30)"),
        "begin(0)\nbegin(1)\n" + Rows.each(0, 15, "about(#, 0)\nabout(#, 1)\nabout(#, 2)\nabout(#, 4)") + "forget()\ncount(2)\n");

    private static int looked = 0;
    private static int wrong = 0;

    public static void main(String[] args) {
        refused("all are open", ALL_OPEN, """
            begin(0) throws.IllegalStateException
            begin(1) throws.IllegalStateException
            begin(2) throws.IllegalArgumentException
            begin(-1) throws.IllegalArgumentException
            push(0) throws.IllegalStateException
            pop(1, true) throws.IllegalStateException
            pop(1, false) throws.IllegalStateException
            about(0, 6) throws.IllegalArgumentException
            about(1, -1) throws.IllegalArgumentException
            past(1, 0) throws.NoSuchElementException
            past(1, 4) throws.NoSuchElementException
            past(1, -1) throws.NoSuchElementException
            """ + Rows.forThese("""
            read(1, #) throws.NoSuchElementException
            write(1, #, 77) throws.NoSuchElementException
            write(0, #, 77) throws.NoSuchElementException
            past(#, 3) throws.NoSuchElementException""", -1, 16, 32, Integer.MIN_VALUE, Integer.MAX_VALUE)
            + callsOfOneNotOpen(-1) + callsOfOneNotOpen(16));
        refused("some are open", SOME_OPEN, callsOfOneNotOpen(5) + callsOfOneNotOpen(9)
            + "begin(2) throws.IllegalArgumentException\nbegin(-2147483648) throws.IllegalArgumentException\n");
        refused("almost full of versions", ALMOST_FULL, "commit(0) throws.IllegalStateException\n");
        looking("some are open", SOME_OPEN, Rows.each(-1, 4, "count(#)") + Rows.each(0, 5, "about(0, #)\nabout(1, #)")
            + Rows.each(0, 3, "spoiled(#)\nmeets(0, #)\nmeets(#, 1)\nmeets(3, #)\npast(1, #)\npast(2, #)\npast(9, #)"));
        System.out.println(looked + " calls looked at, " + wrong + " changed something or were not refused");
        System.exit(wrong == 0 ? 0 : 1);
    }

    private static String readAll(int t) {
        return Rows.each(0, 15, "read(" + t + ", #)");
    }

    private static String callsOfOneNotOpen(int t) {
        return Rows.forThese("""
            read(#, 3) throws.NoSuchElementException
            write(#, 3, 77) throws.NoSuchElementException
            push(#) throws.NoSuchElementException
            pop(#, true) throws.NoSuchElementException
            pop(#, false) throws.NoSuchElementException
            commit(#) throws.NoSuchElementException
            drop(#) throws.NoSuchElementException
            spoiled(#) throws.NoSuchElementException
            meets(#, 0) throws.NoSuchElementException
            meets(0, #) throws.NoSuchElementException
            about(#, 0) throws.NoSuchElementException""", t);
    }

    private static void refused(String title, String before, String rows) {
        for (String row : rows.split("\n")) {
            int bracket = row.indexOf(')') + 1;
            check(title, before, row.substring(0, bracket), row.substring(bracket).trim());
        }
    }

    private static void looking(String title, String before, String calls) {
        for (String call : calls.split("\n")) {
            check(title, before, call, null);
        }
    }

    /** @param due what the call is to answer, null for anything */
    private static void check(String title, String before, String call, String due) {
        looked++;
        VersionDesk desk = new VersionDesk();
        answers(desk, before);
        String got = new Call(call).answerOf(desk);
        if (due != null && !got.equals(due)) {
            tell(title + ": " + call + " answered " + got + ", due is " + due);
        }
        for (String probe : PROBES) {
            List<String> without = answers(new VersionDesk(), before + probe);
            List<String> with = answers(new VersionDesk(), before + call + "\n" + probe);
            with.remove((int) before.lines().count());
            if (!with.equals(without)) {
                tell(title + ": " + call + " changed what is answered then: " + without + " became " + with);
            }
        }
    }

    private static void tell(String what) {
        wrong++;
        System.out.println(what);
    }

    private static List<String> answers(VersionDesk desk, String calls) {
        List<String> lines = Arrays.asList(calls.split("\n"));
        if (lines.size() > MOST_CALLS && !calls.startsWith(ALMOST_FULL)) {
            throw new AssertionError("an object is used for at most " + MOST_CALLS + " calls, not " + lines.size());
        }
        return lines.stream().map(line -> line + " " + new Call(line).answerOf(desk))
            .collect(Collectors.toCollection(ArrayList::new));
    }
}
