/**
 * Each sentence outside the promises that names a boundary case has runs of its own here, under its
 * own words. What a call that throws leaves as it was is looked at in RefusedCallsTest.
 */
public final class EdgesOfTermsTest {
    private static final Script SCRIPT = new Script();

    private static final String FIVE_TWELVE = "An object is used for at most 512 calls";
    private static final String CELLS = "CELLS 0 .. 15, longs, all 0 at CLOCK 0.";
    private static final String NUMBERS = "TRANSACTIONS have numbers 0 .. 15, each OPEN or not.";
    private static final String START = "a START (the CLOCK when it began)";
    private static final String KIND = "a KIND 0 or 1";
    private static final String LAYERS = "LAYERS (1 at first, at most 8)";
    private static final String EACH_LAYER = "for each LAYER the CELLS that it wrote";
    private static final String SAW = "and the CELLS that it SAW";
    private static final String HIGHEST = "READING a CELL: what the highest LAYER that wrote it wrote";
    private static final String AT_START = "if none did, what it was at START";
    private static final String SAW_IT = "and it SAW it.";
    private static final String SPOILED_WROTE = "A CELL is SPOILED for an OPEN one if it wrote it (in a LAYER that is there)";
    private static final String SPOILED_SAW = "or has KIND 1 and SAW it";
    private static final String SPOILED_ABOVE = "and a commit with a CLOCK above its START wrote it";
    private static final String SPOILED_SAME = "(the same number, too)";
    private static final String VERSIONS = "VERSIONS of a CELL: CLOCKS at which it was written, and what";
    private static final String FIRST_VERSION = "0 at CLOCK 0 is the first";
    private static final String FLOOR = "The FLOOR: the least START of all OPEN ones";
    private static final String FLOOR_WITHOUT = "without one the CLOCK";
    private static final String NOT_OPEN = "NoSuchElementException: a TRANSACTION that is not OPEN";
    private static final String NO_CELL = "or a CELL that there is not (so for all)";
    private static final String BEGIN_FIRST = "in begin IllegalArgumentException comes first";
    private static final String ELSEWHERE = "elsewhere this";
    private static final String NAMED_FIRST = "Of several exceptions of a call the one named first in its heading is thrown";

    public static void main(String[] args) {
        calls();
        cells();
        numbers();
        whatAnOpenOneHas();
        layers();
        reading();
        spoiledByWhatItWrote();
        spoiledByWhatItSaw();
        spoiledByWhichCommits();
        versions();
        floor();
        notOpen();
        noSuchCell();
        whichExceptionComesFirst();
        SCRIPT.end();
    }

    private static void calls() {
        SCRIPT.run(FIVE_TWELVE + ": the fullest run, up to the last call", Rows.writeAllCells(28)
            + "begin(0) 0\n" + Rows.writeCells(0, 5, 28, 29) + """
            commit(0) 29
            count(2) 469
            """);
        SCRIPT.run(FIVE_TWELVE + ": the longest clock", Rows.each(1, 170, """
            begin(1) 0
            write(0, 15, #) #-1
            commit(0) #""") + """
            count(0) 170
            past(15, 170) 170
            """);
    }

    private static void cells() {
        SCRIPT.run(CELLS + " There are sixteen, all 0", Rows.each(0, 15, "past(#, 0) 0") + "begin(0) 0\n"
            + Rows.each(0, 15, "read(0, #) 0") + Rows.each(0, 15, "past(#, 0) 0"));
        SCRIPT.run(CELLS + " Each is its own", "begin(0) 0\n" + Rows.each(0, 15, "write(0, #, 10#) 0")
            + Rows.each(0, 15, "read(0, #) 10#") + "commit(0) 1\n"
            + Rows.each(0, 15, "past(#, 1) 10#") + Rows.each(0, 15, "past(#, 0) 0"));
        SCRIPT.run(CELLS + " A long is kept whole", Rows.forThese("""
            begin(1) 0
            push(0) 2
            write(0, 0, #) 0
            write(0, 0, #) #
            pop(0, true) 1
            read(0, 0) #
            drop(0) 1""", Long.MAX_VALUE, Long.MIN_VALUE, -1, 1L << 31, -(1L << 31) - 1, 1L << 32, 1L << 62)
            + """
            begin(0) 0
            write(0, 0, 9223372036854775807) 0
            write(0, 1, -9223372036854775808) 0
            write(0, 2, 4294967296) 0
            write(0, 3, -1) 0
            commit(0) 1
            begin(0) 0
            read(0, 0) 9223372036854775807
            read(0, 1) -9223372036854775808
            read(0, 2) 4294967296
            read(0, 3) -1
            past(0, 1) 9223372036854775807
            past(1, 1) -9223372036854775808
            past(2, 1) 4294967296
            past(3, 1) -1
            """);
    }

    private static void numbers() {
        SCRIPT.run(NUMBERS + " All sixteen can be open", Rows.each(0, 15, "about(#, 2) throws.NoSuchElementException")
            + Rows.each(0, 15, "begin(0) #\nabout(#, 2) 1") + "begin(0) throws.IllegalStateException\ncount(1) 16\n"
            + Rows.each(0, 15, "drop(#) 0\nabout(#, 2) throws.NoSuchElementException") + "count(1) 0\n");
        SCRIPT.run(NUMBERS + " Each is its own", Rows.each(0, 15, "begin(0) #")
            + Rows.each(0, 15, "write(#, 3, 10#) 0") + Rows.each(0, 15, "read(#, 3) 10#")
            + Rows.each(0, 14, "drop(#) 1") + """
            read(15, 3) 1015
            commit(15) 1
            past(3, 1) 1015
            """);
    }

    private static void whatAnOpenOneHas() {
        SCRIPT.run(START + ": clock 0, a later one, and it stays", """
            begin(0) 0
            begin(0) 1
            about(0, 0) 0
            write(1, 1, 1) 0
            commit(1) 1
            begin(0) 1
            about(0, 0) 0
            about(1, 0) 1
            write(0, 2, 1) 0
            commit(0) 2
            about(1, 0) 1
            begin(0) 0
            about(0, 0) 2
            """);
        SCRIPT.run(KIND + ": each of both, also for a number that had the other", """
            begin(0) 0
            begin(1) 1
            about(0, 1) 0
            about(1, 1) 1
            drop(0) 0
            drop(1) 0
            begin(1) 0
            begin(0) 1
            about(0, 1) 1
            about(1, 1) 0
            """);
        SCRIPT.run(SAW + ": none at first, sixteen at most", "begin(1) 0\nabout(0, 4) 0\n"
            + Rows.each(0, 15, "read(0, #) 0\nread(0, #) 0") + """
            about(0, 4) 16
            drop(0) 0
            begin(1) 0
            about(0, 4) 0
            """);
    }

    private static void layers() {
        SCRIPT.run(LAYERS + ": 1 at first, also for a number that had 8", "begin(0) 0\nabout(0, 2) 1\n"
            + Rows.each(2, 8, "push(0) #\nabout(0, 2) #") + """
            drop(0) 0
            begin(0) 0
            about(0, 2) 1
            pop(0, false) throws.IllegalStateException
            push(0) 2
            """);
        SCRIPT.run(LAYERS + ": eight of one do not hinder another", "begin(0) 0\nbegin(0) 1\n"
            + Rows.each(2, 8, "push(0) #") + "push(0) throws.IllegalStateException\nabout(1, 2) 1\n"
            + Rows.each(2, 8, "push(1) #") + "push(1) throws.IllegalStateException\n");
        SCRIPT.run(EACH_LAYER + ": all eight wrote the same cell", "begin(0) 0\nwrite(0, 9, 1) 0\n"
            + Rows.each(2, 8, "push(0) #\nread(0, 9) #-1\nwrite(0, 9, #) #-1\nread(0, 9) #") + "about(0, 3) 1\n"
            + Rows.forThese("pop(0, false) #\nread(0, 9) #", 7, 6, 5, 4, 3, 2, 1) + """
            about(0, 3) 1
            about(0, 4) 0
            """);
        SCRIPT.run(EACH_LAYER + ": each of eight wrote two cells", "begin(0) 0\nwrite(0, 0, 1) 0\nwrite(0, 8, 1) 0\n"
            + Rows.each(1, 7, "push(0) #+1\nwrite(0, #, 1) 0\nwrite(0, 15, #) #-1") + """
            about(0, 3) 10
            pop(0, false) 7
            about(0, 3) 9
            read(0, 15) 6
            pop(0, false) 6
            about(0, 3) 8
            read(0, 15) 5
            read(0, 7) 0
            read(0, 5) 1
            drop(0) 8
            """);
    }

    private static void reading() {
        SCRIPT.run(HIGHEST + ": layers above and below that did not", """
            begin(0) 0
            push(0) 2
            write(0, 4, 40) 0
            push(0) 3
            push(0) 4
            write(0, 4, 41) 40
            push(0) 5
            push(0) 6
            read(0, 4) 41
            write(0, 4, 42) 41
            pop(0, false) 5
            read(0, 4) 41
            pop(0, false) 4
            pop(0, false) 3
            read(0, 4) 40
            pop(0, false) 2
            pop(0, false) 1
            read(0, 4) 0
            about(0, 4) 1
            """);
        SCRIPT.run(HIGHEST + ": a 0 that it wrote is what it wrote", """
            begin(0) 0
            write(0, 4, 9) 0
            commit(0) 1
            begin(1) 0
            write(0, 4, 0) 9
            read(0, 4) 0
            about(0, 4) 0
            push(0) 2
            write(0, 4, 3) 0
            push(0) 3
            write(0, 4, 0) 3
            read(0, 4) 0
            commit(0) 2
            past(4, 2) 0
            """);
        SCRIPT.run(AT_START + ": a commit of this clock is in it, one of the next is not", """
            begin(0) 0
            write(0, 4, 1) 0
            commit(0) 1
            begin(0) 0
            begin(0) 1
            write(1, 4, 2) 1
            commit(1) 2
            begin(0) 1
            begin(0) 2
            write(2, 4, 3) 2
            commit(2) 3
            read(0, 4) 1
            read(1, 4) 2
            begin(0) 2
            read(2, 4) 3
            write(0, 4, 7) 1
            write(1, 4, 7) 2
            """);
        SCRIPT.run(AT_START + ": what was written long before, and forgotten around it", """
            begin(0) 0
            write(0, 4, 1) 0
            commit(0) 1
            begin(0) 0
            write(0, 5, 1) 0
            commit(0) 2
            begin(0) 0
            begin(0) 1
            write(1, 4, 9) 1
            commit(1) 3
            forget() 2
            read(0, 4) 1
            read(0, 5) 1
            read(0, 6) 0
            """);
        SCRIPT.run(SAW_IT + " A cell that a layer wrote is not seen, one of a layer that went is", """
            begin(1) 0
            push(0) 2
            write(0, 4, 1) 0
            push(0) 3
            read(0, 4) 1
            about(0, 4) 0
            pop(0, true) 2
            read(0, 4) 1
            about(0, 4) 0
            pop(0, false) 1
            about(0, 4) 0
            read(0, 4) 0
            about(0, 4) 1
            write(0, 4, 2) 0
            read(0, 4) 2
            about(0, 4) 1
            """);
    }

    private static void spoiledByWhatItWrote() {
        SCRIPT.run(SPOILED_WROTE + ": given up, it is not", """
            begin(0) 0
            begin(1) 1
            push(0) 2
            push(1) 2
            write(0, 3, 1) 0
            write(1, 3, 1) 0
            begin(0) 2
            write(2, 3, 1) 0
            commit(2) 1
            about(0, 5) 1
            about(1, 5) 1
            pop(0, false) 1
            pop(1, false) 1
            about(0, 5) 0
            about(1, 5) 0
            commit(0) 1
            commit(1) 1
            """);
        SCRIPT.run(SPOILED_WROTE + ": kept, it is; in the lowest of eight layers, too", """
            begin(0) 0
            begin(0) 1
            push(0) 2
            write(0, 3, 1) 0
            pop(0, true) 1
            write(1, 3, 1) 0
            """ + Rows.each(2, 8, "push(1) #") + """
            begin(0) 2
            write(2, 3, 1) 0
            commit(2) 1
            spoiled(0) true
            spoiled(1) true
            commit(0) -1
            commit(1) -1
            """);
        SCRIPT.run(SPOILED_WROTE + ": given up above, still written below", """
            begin(0) 0
            write(0, 3, 1) 0
            push(0) 2
            write(0, 3, 2) 1
            begin(0) 1
            write(1, 3, 1) 0
            commit(1) 1
            pop(0, false) 1
            spoiled(0) true
            about(0, 5) 1
            """);
        SCRIPT.run(SPOILED_WROTE + ": written after that commit, too", """
            begin(0) 0
            begin(0) 1
            write(1, 3, 1) 0
            commit(1) 1
            spoiled(0) false
            write(0, 3, 2) 0
            spoiled(0) true
            commit(0) -1
            """);
    }

    private static void spoiledByWhatItSaw() {
        SCRIPT.run(SPOILED_SAW + ": kind 0 did not mind", """
            begin(0) 0
            begin(1) 1
            read(0, 3) 0
            read(1, 3) 0
            begin(0) 2
            write(2, 3, 1) 0
            commit(2) 1
            about(0, 5) 0
            about(1, 5) 1
            commit(0) 1
            commit(1) -1
            """);
        SCRIPT.run(SPOILED_SAW + ": in a layer that went, too", """
            begin(1) 0
            push(0) 2
            read(0, 3) 0
            pop(0, false) 1
            begin(0) 1
            write(1, 3, 1) 0
            commit(1) 1
            spoiled(0) true
            commit(0) -1
            """);
        SCRIPT.run(SPOILED_SAW + ": seen and written is one cell; given up, it is still seen", """
            begin(1) 0
            read(0, 3) 0
            push(0) 2
            write(0, 3, 1) 0
            begin(0) 1
            write(1, 3, 1) 0
            commit(1) 1
            about(0, 5) 1
            pop(0, false) 1
            about(0, 5) 1
            """);
        SCRIPT.run(SPOILED_SAW + ": what it read of its own is not seen", """
            begin(1) 0
            push(0) 2
            write(0, 3, 1) 0
            read(0, 3) 1
            pop(0, false) 1
            begin(0) 1
            write(1, 3, 1) 0
            commit(1) 1
            spoiled(0) false
            commit(0) 1
            """);
        SCRIPT.run(SPOILED_SAW + ": all sixteen", "begin(1) 0\nbegin(0) 1\n" + Rows.each(0, 15, "read(0, #) 0")
            + Rows.each(0, 15, "write(1, #, 1) 0") + """
            about(0, 5) 0
            commit(1) 1
            about(0, 5) 16
            spoiled(0) true
            """);
    }

    private static void spoiledByWhichCommits() {
        SCRIPT.run(SPOILED_ABOVE + ": not one of its start", """
            begin(0) 0
            begin(1) 1
            write(0, 3, 1) 0
            commit(0) 1
            begin(1) 0
            read(0, 3) 1
            write(0, 3, 2) 1
            read(1, 3) 0
            spoiled(0) false
            spoiled(1) true
            commit(0) 2
            """);
        SCRIPT.run(SPOILED_ABOVE + ": the newest at its start, the next above", """
            begin(0) 0
            write(0, 3, 1) 0
            commit(0) 1
            begin(0) 0
            write(0, 3, 2) 1
            commit(0) 2
            begin(1) 0
            read(0, 3) 2
            spoiled(0) false
            begin(0) 1
            write(1, 3, 3) 2
            commit(1) 3
            spoiled(0) true
            """);
        SCRIPT.run(SPOILED_ABOVE + ": of several above, the older counts for a cell of its own", """
            begin(1) 0
            read(0, 3) 0
            read(0, 4) 0
            begin(0) 1
            write(1, 3, 1) 0
            commit(1) 1
            begin(0) 1
            write(1, 4, 1) 0
            commit(1) 2
            begin(0) 1
            write(1, 5, 1) 0
            commit(1) 3
            about(0, 5) 2
            """);
        SCRIPT.run(SPOILED_ABOVE + ": not one that did not come to write", """
            begin(1) 0
            read(0, 3) 0
            read(0, 4) 0
            begin(0) 1
            begin(0) 2
            begin(0) 3
            write(1, 3, 1) 0
            write(1, 5, 1) 0
            drop(1) 2
            push(2) 2
            write(2, 3, 1) 0
            pop(2, false) 1
            write(2, 5, 1) 0
            commit(2) 1
            write(3, 4, 1) 0
            write(3, 5, 1) 0
            commit(3) -1
            spoiled(0) false
            commit(0) 1
            """);
        SCRIPT.run(SPOILED_ABOVE + ": forgetting leaves it", """
            begin(1) 0
            read(0, 3) 0
            begin(0) 1
            write(1, 3, 1) 0
            commit(1) 1
            begin(0) 1
            write(1, 3, 2) 1
            commit(1) 2
            forget() 0
            about(0, 5) 1
            commit(0) -1
            """);
        SCRIPT.run(SPOILED_SAME + ": the 0 that it was", """
            begin(0) 0
            begin(1) 1
            begin(0) 2
            write(0, 3, 0) 0
            read(1, 3) 0
            write(2, 3, 0) 0
            commit(2) 1
            spoiled(0) true
            spoiled(1) true
            commit(0) -1
            commit(1) -1
            """);
        SCRIPT.run(SPOILED_SAME + ": what the other one wrote", """
            begin(0) 0
            write(0, 3, 7) 0
            begin(0) 1
            write(1, 3, 7) 0
            commit(1) 1
            spoiled(0) true
            commit(0) -1
            """);
        SCRIPT.run(SPOILED_SAME + ": changed and changed back", """
            begin(1) 0
            read(0, 3) 0
            begin(0) 1
            write(1, 3, 7) 0
            commit(1) 1
            begin(0) 1
            write(1, 3, 0) 7
            commit(1) 2
            spoiled(0) true
            """);
    }

    private static void versions() {
        SCRIPT.run(FIRST_VERSION + ", of each cell", "count(2) 16\n" + Rows.each(0, 15, "past(#, 0) 0") + """
            begin(0) 0
            write(0, 3, 5) 0
            commit(0) 1
            past(3, 0) 0
            past(3, 1) 5
            count(2) 17
            """);
        SCRIPT.run(VERSIONS + ": one for a commit, not for each write", """
            begin(0) 0
            write(0, 3, 1) 0
            write(0, 3, 2) 1
            push(0) 2
            write(0, 3, 3) 2
            count(2) 16
            commit(0) 1
            count(2) 17
            past(3, 1) 3
            """);
        SCRIPT.run(VERSIONS + ": the same number, too", """
            begin(0) 0
            write(0, 3, 0) 0
            commit(0) 1
            count(2) 17
            begin(0) 0
            write(0, 3, 0) 0
            commit(0) 2
            count(2) 18
            past(3, 0) 0
            forget() 2
            past(3, 1) throws.NoSuchElementException
            past(3, 2) 0
            """);
    }

    private static void floor() {
        SCRIPT.run(FLOOR + ": not the lowest number's, not the newest", """
            begin(0) 0
            begin(0) 1
            write(0, 1, 1) 0
            commit(0) 1
            begin(0) 0
            count(3) 0
            begin(0) 2
            write(2, 1, 2) 1
            commit(2) 2
            begin(1) 2
            count(3) 0
            drop(1) 0
            count(3) 1
            drop(0) 0
            count(3) 2
            """);
        SCRIPT.run(FLOOR + ": it goes up by each way to end one, and number 15 counts", Rows.each(0, 15, "begin(0) #")
            + Rows.each(0, 12, "drop(#) 0") + """
            write(15, 1, 1) 0
            write(14, 1, 1) 0
            commit(14) 1
            begin(0) 0
            write(0, 2, 1) 0
            commit(0) 2
            begin(0) 0
            count(3) 0
            drop(13) 0
            count(3) 0
            commit(15) -1
            count(3) 2
            commit(0) 2
            count(3) 2
            """);
        SCRIPT.run(FLOOR_WITHOUT + ": on a new object, and later", """
            count(3) 0
            begin(0) 0
            write(0, 1, 1) 0
            count(3) 0
            commit(0) 1
            count(3) 1
            begin(0) 0
            write(0, 1, 1) 1
            count(3) 1
            commit(0) 2
            count(3) 2
            """);
    }

    private static void notOpen() {
        String neverOne = Rows.forThese(callsOf("#"), -1, 16, 17, 31, 32, -16, -32, 256, 65536,
            Integer.MAX_VALUE, Integer.MIN_VALUE);
        SCRIPT.run(NOT_OPEN + ": no number of one, on a new object", neverOne);
        SCRIPT.run(NOT_OPEN + ": no number of one, where all are", Rows.each(0, 15, "begin(1) #") + neverOne);
        SCRIPT.run(NOT_OPEN + ": not yet", callsOf("0") + callsOf("15") + "begin(0) 0\n" + callsOf("1") + callsOf("15"));
        SCRIPT.run(NOT_OPEN + ": committed, with and without writing", """
            begin(0) 0
            begin(0) 1
            write(0, 3, 1) 0
            push(0) 2
            commit(0) 1
            push(1) 2
            commit(1) 1
            """ + callsOf("0") + callsOf("1"));
        SCRIPT.run(NOT_OPEN + ": committed in vain", """
            begin(0) 0
            begin(0) 1
            write(0, 3, 1) 0
            write(1, 3, 1) 0
            push(1) 2
            commit(0) 1
            commit(1) -1
            """ + callsOf("1"));
        SCRIPT.run(NOT_OPEN + ": dropped", """
            begin(0) 0
            write(0, 3, 1) 0
            push(0) 2
            drop(0) 1
            """ + callsOf("0"));
        SCRIPT.run(NOT_OPEN + ": one of the two that meets asks about", """
            begin(0) 0
            begin(0) 1
            write(0, 3, 1) 0
            write(1, 3, 1) 0
            """ + Rows.forThese("""
            meets(0, #) throws.NoSuchElementException
            meets(#, 0) throws.NoSuchElementException
            meets(#, #) throws.NoSuchElementException""", 2, 15, 16, -1, Integer.MAX_VALUE, Integer.MIN_VALUE) + """
            drop(1) 1
            meets(0, 1) throws.NoSuchElementException
            meets(1, 0) throws.NoSuchElementException
            meets(1, 1) throws.NoSuchElementException
            meets(0, 0) false
            """);
    }

    private static String callsOf(String t) {
        return """
            read(#, 3) throws.NoSuchElementException
            read(#, 16) throws.NoSuchElementException
            write(#, 3, 1) throws.NoSuchElementException
            write(#, -1, 1) throws.NoSuchElementException
            push(#) throws.NoSuchElementException
            pop(#, true) throws.NoSuchElementException
            pop(#, false) throws.NoSuchElementException
            commit(#) throws.NoSuchElementException
            drop(#) throws.NoSuchElementException
            spoiled(#) throws.NoSuchElementException
            meets(#, #) throws.NoSuchElementException
            about(#, 0) throws.NoSuchElementException
            about(#, 5) throws.NoSuchElementException
            """.replace("#", t);
    }

    private static void noSuchCell() {
        // Masks and shifts would take some of these for a cell that there is.
        SCRIPT.run(NO_CELL + ": -1, 16 and others", "begin(1) 0\n" + Rows.forThese("""
            read(0, #) throws.NoSuchElementException
            write(0, #, 1) throws.NoSuchElementException
            past(#, 0) throws.NoSuchElementException""", -1, 16, 17, 31, 32, 33, 48, 64, -16, -32, 256, 65536,
            Integer.MAX_VALUE, Integer.MIN_VALUE) + """
            about(0, 3) 0
            about(0, 4) 0
            read(0, 0) 0
            read(0, 15) 0
            about(0, 4) 2
            """);
        SCRIPT.run(NO_CELL + ": no transaction either, no clock either", """
            read(0, 16) throws.NoSuchElementException
            write(16, 16, 1) throws.NoSuchElementException
            past(16, 1) throws.NoSuchElementException
            past(-1, -1) throws.NoSuchElementException
            """);
    }

    private static void whichExceptionComesFirst() {
        SCRIPT.run(BEGIN_FIRST + ": another kind where all are open", Rows.each(0, 15, "begin(0) #")
            + Rows.forThese("begin(#) throws.IllegalArgumentException", 2, -1, Integer.MAX_VALUE, Integer.MIN_VALUE)
            + "begin(0) throws.IllegalStateException\nbegin(1) throws.IllegalStateException\n");
        SCRIPT.run(ELSEWHERE + ": another what of one that is not open", """
            about(0, 6) throws.NoSuchElementException
            about(16, -1) throws.NoSuchElementException
            begin(0) 0
            about(1, 6) throws.NoSuchElementException
            about(0, 6) throws.IllegalArgumentException
            drop(0) 0
            about(0, -1) throws.NoSuchElementException
            """);
        SCRIPT.run(ELSEWHERE + ": one that ended with 8 layers, or with one", "begin(0) 0\n"
            + Rows.each(2, 8, "push(0) #") + """
            push(0) throws.IllegalStateException
            drop(0) 0
            push(0) throws.NoSuchElementException
            begin(0) 0
            pop(0, true) throws.IllegalStateException
            drop(0) 0
            pop(0, true) throws.NoSuchElementException
            """);
        SCRIPT.run(NAMED_FIRST + ": each call that names two", Rows.each(0, 15, "begin(0) #") + """
            begin(2) throws.IllegalArgumentException
            push(16) throws.NoSuchElementException
            pop(16, true) throws.NoSuchElementException
            pop(-1, false) throws.NoSuchElementException
            commit(16) throws.NoSuchElementException
            about(16, 6) throws.NoSuchElementException
            about(-1, -1) throws.NoSuchElementException
            """);
    }
}
