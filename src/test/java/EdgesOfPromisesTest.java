/** Each sentence of a promise that names a boundary case has runs of its own here, under its own words. */
public final class EdgesOfPromisesTest {
    private static final Script SCRIPT = new Script();

    private static final String NEW = "1: CLOCK 0, no TRANSACTION is OPEN.";
    private static final String LEAST = "2: The least number that is not OPEN is, with a KIND: it.";
    private static final String OTHER_KIND = "2: IllegalArgumentException: another KIND.";
    private static final String ALL_OPEN = "2: IllegalStateException: all are OPEN.";
    private static final String READING = "3: READING.";
    private static final String WRITES = "4: Its highest LAYER writes";
    private static final String BEFORE = "4: what READING would have been";
    private static final String NOT_SEEN = "4: (it does not count as SEEN)";
    private static final String MORE = "5: One LAYER more: how many.";
    private static final String EIGHT = "5: IllegalStateException: there are 8.";
    private static final String GOES = "6: The highest LAYER goes";
    private static final String KEEP = "6: keep: what it wrote is what the one below wrote then";
    private static final String HOW_MANY_LAYERS = "6: how many LAYERS.";
    private static final String ALONE = "6: IllegalStateException: there is one alone.";
    private static final String ENDS = "7: It is not OPEN then.";
    private static final String IN_VAIN = "7: If a CELL is SPOILED for it: -1, and nothing else.";
    private static final String IF_ANY = "7: If it wrote any: the CLOCK is 1 more";
    private static final String THEY_HAVE = "7: and they have what READING would tell, VERSIONS of this CLOCK.";
    private static final String THE_CLOCK = "7: The CLOCK.";
    private static final String TOO_MANY = "7: IllegalStateException: there would be more than 500 VERSIONS (it stays OPEN).";
    private static final String DROPPED = "8: It is not OPEN then";
    private static final String HAD_WRITTEN = "8: how many CELLS it had written.";
    private static final String SOME_CELL = "9: Whether some CELL is SPOILED for it by now.";
    private static final String WOULD_SPOIL = "10: Whether a commit of a now, if it wrote what it has written, would spoil a CELL for b";
    private static final String THAT_IS_NOT = "10: that is not.";
    private static final String NOT_ITSELF = "10: (Not for itself.)";
    private static final String AT_A_CLOCK = "11: What a CELL was at a CLOCK.";
    private static final String OTHER_CLOCK = "11: NoSuchElementException: another CLOCK than 0 .. the CLOCK";
    private static final String FORGOTTEN = "11: or what it was there is forgotten, too.";
    private static final String BEHIND = "12: VERSIONS behind which another one stands that is not above the FLOOR are forgotten";
    private static final String HOW_MANY_GO = "12: how many.";
    private static final String ABOUT = "13: Of an OPEN one: what 0 START, 1 KIND, 2 LAYERS, 3 how many CELLS it wrote,"
        + " 4 how many it SAW, 5 how many are SPOILED.";
    private static final String OTHER_WHAT = "13: IllegalArgumentException: another what.";
    private static final String COUNT = "14: 0 the CLOCK; 1 how many are OPEN; 2 VERSIONS of all CELLS; 3 the FLOOR.";
    private static final String ELSE = "14: Else -1.";

    public static void main(String[] args) {
        newObject();
        begin();
        read();
        write();
        push();
        pop();
        popOfOneAlone();
        commit();
        commitInVain();
        commitOfTooMany();
        drop();
        spoiled();
        meets();
        past();
        forget();
        about();
        count();
        SCRIPT.end();
    }

    private static void newObject() {
        SCRIPT.run(NEW + " All that can be asked of it", """
            count(0) 0
            count(1) 0
            count(2) 16
            count(3) 0
            """ + Rows.each(0, 15, "spoiled(#) throws.NoSuchElementException\ndrop(#) throws.NoSuchElementException")
            + "past(0, 1) throws.NoSuchElementException\nforget() 0\nbegin(0) 0\nabout(0, 0) 0\n");
        SCRIPT.run(NEW + " A busy one", Rows.writeAllCells(3) + Rows.each(0, 15, "begin(1) #"));
        SCRIPT.run(NEW + " One after a busy one", "count(0) 0\ncount(1) 0\ncount(2) 16\npast(15, 0) 0\nbegin(0) 0\n");
    }

    private static void begin() {
        SCRIPT.run(LEAST + " The first, the last, one in a gap, the lower of two gaps", Rows.each(0, 15, "begin(0) #") + """
            drop(15) 0
            begin(0) 15
            drop(0) 0
            begin(0) 0
            drop(9) 0
            begin(0) 9
            drop(12) 0
            drop(3) 0
            begin(1) 3
            begin(1) 12
            drop(3) 0
            drop(12) 0
            begin(1) 3
            about(3, 1) 1
            about(4, 1) 0
            count(1) 15
            """);
        SCRIPT.run(LEAST + " Whichever way the one before ended", """
            begin(0) 0
            begin(0) 1
            begin(0) 2
            begin(0) 3
            write(0, 5, 1) 0
            write(1, 5, 1) 0
            commit(0) 1
            begin(0) 0
            commit(1) -1
            begin(0) 1
            commit(2) 1
            begin(0) 2
            drop(3) 0
            begin(0) 3
            begin(0) 4
            """);
        SCRIPT.run(LEAST + " It begins with nothing of the one before", "begin(1) 0\n" + Rows.each(0, 15, "read(0, #) 0")
            + Rows.each(2, 8, "push(0) #\nwrite(0, #, 9) 0") + """
            drop(0) 7
            begin(0) 0
            about(0, 1) 0
            about(0, 2) 1
            about(0, 3) 0
            about(0, 4) 0
            about(0, 5) 0
            """ + Rows.each(2, 8, "push(0) #\nabout(0, 3) 0\nread(0, #) 0") + "drop(0) 0\n");
        SCRIPT.run(OTHER_KIND, Rows.forThese("begin(#) throws.IllegalArgumentException\ncount(1) 0",
            -1, 2, 3, 4, -2, 256, 257, 65536, 65537, Integer.MAX_VALUE, Integer.MIN_VALUE, Integer.MIN_VALUE + 1)
            + "begin(1) 0\nbegin(0) 1\n");
        SCRIPT.run(ALL_OPEN + " The sixteenth is let in, the next is not", Rows.each(0, 14, "begin(0) #") + """
            count(1) 15
            begin(1) 15
            begin(0) throws.IllegalStateException
            begin(1) throws.IllegalStateException
            count(1) 16
            about(15, 1) 1
            about(0, 1) 0
            commit(8) 0
            begin(1) 8
            begin(0) throws.IllegalStateException
            """);
    }

    private static void read() {
        SCRIPT.run(READING + " The lowest and the highest number, cell and layer", Rows.each(0, 15, "begin(1) #") + """
            write(0, 0, 1) 0
            write(15, 15, 2) 0
            """ + Rows.each(2, 8, "push(15) #") + """
            write(15, 0, 3) 0
            read(0, 0) 1
            read(0, 15) 0
            read(15, 0) 3
            read(15, 15) 2
            about(0, 4) 1
            about(15, 4) 0
            """);
        SCRIPT.run(READING + " Again and again, while others commit", """
            begin(0) 0
            read(0, 3) 0
            begin(0) 1
            write(1, 3, 4) 0
            read(0, 3) 0
            commit(1) 1
            read(0, 3) 0
            about(0, 4) 1
            begin(0) 1
            read(1, 3) 4
            """);
    }

    private static void write() {
        SCRIPT.run(WRITES + ": not the one below", """
            begin(0) 0
            write(0, 3, 1) 0
            push(0) 2
            write(0, 3, 2) 1
            write(0, 4, 2) 0
            pop(0, false) 1
            read(0, 3) 1
            read(0, 4) 0
            about(0, 3) 1
            """);
        SCRIPT.run(WRITES + ": the eighth of eight, the one alone", "begin(0) 0\nwrite(0, 3, 1) 0\n"
            + Rows.each(2, 8, "push(0) #") + """
            write(0, 3, 8) 1
            write(0, 3, 9) 8
            pop(0, false) 7
            read(0, 3) 1
            """);
        SCRIPT.run(WRITES + ": the same number as before is written, too", """
            begin(0) 0
            write(0, 3, 0) 0
            about(0, 3) 1
            commit(0) 1
            count(2) 17
            """);
        SCRIPT.run(BEFORE + ": of the layer, of one below, of the start, of a given up one not", """
            begin(0) 0
            write(0, 3, 30) 0
            commit(0) 1
            begin(0) 0
            begin(0) 1
            write(1, 3, 31) 30
            commit(1) 2
            write(0, 3, 1) 30
            write(0, 3, 2) 1
            push(0) 2
            push(0) 3
            write(0, 3, 3) 2
            pop(0, false) 2
            write(0, 3, 4) 2
            pop(0, true) 1
            write(0, 3, 5) 4
            """);
        SCRIPT.run(NOT_SEEN, """
            begin(1) 0
            push(0) 2
            write(0, 3, 1) 0
            write(0, 3, 2) 1
            about(0, 4) 0
            pop(0, false) 1
            about(0, 4) 0
            begin(0) 1
            write(1, 3, 9) 0
            commit(1) 1
            spoiled(0) false
            about(0, 5) 0
            commit(0) 1
            """);
        SCRIPT.run(NOT_SEEN + ": nor is one that it saw before unseen", """
            begin(1) 0
            read(0, 3) 0
            push(0) 2
            write(0, 3, 1) 0
            about(0, 4) 1
            pop(0, false) 1
            about(0, 4) 1
            """);
    }

    private static void push() {
        SCRIPT.run(MORE + " It has written nothing, though one in its place had", """
            begin(0) 0
            write(0, 1, 1) 0
            push(0) 2
            write(0, 2, 2) 0
            push(0) 3
            write(0, 3, 3) 0
            pop(0, false) 2
            pop(0, false) 1
            push(0) 2
            push(0) 3
            about(0, 3) 1
            read(0, 1) 1
            read(0, 2) 0
            read(0, 3) 0
            pop(0, true) 2
            pop(0, true) 1
            about(0, 3) 1
            """);
        SCRIPT.run(EIGHT + " The eighth is let in, the next is not", "begin(0) 0\n" + Rows.each(2, 7, "push(0) #") + """
            push(0) 8
            push(0) throws.IllegalStateException
            push(0) throws.IllegalStateException
            about(0, 2) 8
            pop(0, true) 7
            push(0) 8
            push(0) throws.IllegalStateException
            """);
    }

    private static void pop() {
        SCRIPT.run(GOES + ": with all that it wrote, and nothing else does", """
            begin(0) 0
            write(0, 1, 1) 0
            push(0) 2
            write(0, 1, 2) 1
            write(0, 2, 2) 0
            push(0) 3
            write(0, 0, 3) 0
            write(0, 1, 3) 2
            write(0, 2, 3) 2
            """ + Rows.each(3, 15, "write(0, #, 3) 0") + """
            about(0, 3) 16
            pop(0, false) 2
            about(0, 3) 2
            read(0, 1) 2
            read(0, 2) 2
            read(0, 0) 0
            read(0, 15) 0
            pop(0, false) 1
            about(0, 3) 1
            read(0, 1) 1
            read(0, 2) 0
            """);
        SCRIPT.run(KEEP + ": over what that one wrote, beside it, and all sixteen", """
            begin(0) 0
            push(0) 2
            write(0, 1, 1) 0
            write(0, 2, 1) 0
            push(0) 3
            write(0, 2, 2) 1
            write(0, 3, 2) 0
            pop(0, true) 2
            read(0, 1) 1
            read(0, 2) 2
            read(0, 3) 2
            about(0, 3) 3
            pop(0, false) 1
            about(0, 3) 0
            push(0) 2
            """ + Rows.each(0, 15, "write(0, #, 10#) 0") + "pop(0, true) 1\n" + Rows.each(0, 15, "read(0, #) 10#")
            + "about(0, 3) 16\nabout(0, 4) 0\n");
        SCRIPT.run(KEEP + ": the one below alone, not those under it", """
            begin(0) 0
            write(0, 1, 1) 0
            push(0) 2
            push(0) 3
            write(0, 1, 3) 1
            pop(0, true) 2
            pop(0, false) 1
            read(0, 1) 1
            """);
        SCRIPT.run(KEEP + ": where it wrote nothing, a 0, or the one below nothing", """
            begin(0) 0
            write(0, 1, 1) 0
            push(0) 2
            pop(0, true) 1
            read(0, 1) 1
            about(0, 3) 1
            push(0) 2
            write(0, 1, 0) 1
            pop(0, true) 1
            read(0, 1) 0
            drop(0) 1
            begin(0) 0
            push(0) 2
            pop(0, true) 1
            about(0, 3) 0
            drop(0) 0
            """);
        SCRIPT.run(KEEP + ": what it is then can be given up once more", """
            begin(0) 0
            push(0) 2
            push(0) 3
            write(0, 1, 5) 0
            pop(0, true) 2
            push(0) 3
            write(0, 1, 6) 5
            pop(0, false) 2
            read(0, 1) 5
            pop(0, false) 1
            read(0, 1) 0
            commit(0) 0
            """);
    }

    private static void popOfOneAlone() {
        SCRIPT.run(HOW_MANY_LAYERS + " From eight to one, both ways", "begin(0) 0\n" + Rows.each(2, 8, "push(0) #")
            + Rows.forThese("pop(0, true) #\nabout(0, 2) #", 7, 6, 5, 4, 3, 2, 1) + Rows.each(2, 8, "push(0) #")
            + Rows.forThese("pop(0, false) #\nabout(0, 2) #", 7, 6, 5, 4, 3, 2, 1));
        SCRIPT.run(ALONE + " With two it goes, both ways, then not", """
            begin(0) 0
            write(0, 1, 5) 0
            pop(0, true) throws.IllegalStateException
            pop(0, false) throws.IllegalStateException
            read(0, 1) 5
            push(0) 2
            pop(0, true) 1
            pop(0, true) throws.IllegalStateException
            push(0) 2
            pop(0, false) 1
            pop(0, false) throws.IllegalStateException
            about(0, 2) 1
            about(0, 3) 1
            read(0, 1) 5
            """);
    }

    private static void commit() {
        SCRIPT.run(ENDS + " Having written, having not, in vain, with layers above", """
            begin(0) 0
            begin(0) 1
            begin(1) 2
            write(0, 3, 1) 0
            push(0) 2
            read(2, 3) 0
            count(1) 3
            commit(0) 1
            count(1) 2
            commit(0) throws.NoSuchElementException
            commit(1) 1
            count(1) 1
            commit(1) throws.NoSuchElementException
            commit(2) -1
            count(1) 0
            commit(2) throws.NoSuchElementException
            """);
        SCRIPT.run(IF_ANY + ", by one for one cell, by one for sixteen", """
            begin(0) 0
            write(0, 15, 1) 0
            commit(0) 1
            count(0) 1
            count(2) 17
            begin(0) 0
            """ + Rows.each(0, 14, "write(0, #, 2) 0") + """
            write(0, 15, 2) 1
            commit(0) 2
            count(0) 2
            count(2) 33
            """);
        SCRIPT.run(IF_ANY + ", not if what it wrote was given up", """
            begin(0) 0
            push(0) 2
            write(0, 3, 1) 0
            pop(0, false) 1
            commit(0) 0
            count(0) 0
            count(2) 16
            begin(0) 0
            push(0) 2
            write(0, 3, 1) 0
            pop(0, true) 1
            commit(0) 1
            """);
        SCRIPT.run(THEY_HAVE + " Of the highest layer that wrote it, from all eight", "begin(0) 0\nwrite(0, 15, 1) 0\n"
            + Rows.each(2, 8, "push(0) #\nwrite(0, 15, #) #-1\nwrite(0, #, 10#) 0") + "commit(0) 1\n"
            + Rows.each(2, 8, "past(#, 1) 10#\npast(#, 0) 0") + """
            past(15, 1) 8
            past(15, 0) 0
            past(0, 1) 0
            past(1, 1) 0
            past(9, 1) 0
            count(2) 24
            """);
        SCRIPT.run(THEY_HAVE + " Others keep theirs", """
            begin(0) 0
            write(0, 3, 1) 0
            write(0, 4, 1) 0
            commit(0) 1
            begin(0) 0
            write(0, 4, 2) 1
            commit(0) 2
            past(3, 1) 1
            past(3, 2) 1
            past(4, 1) 1
            past(4, 2) 2
            begin(0) 0
            read(0, 3) 1
            read(0, 4) 2
            """);
        SCRIPT.run(THE_CLOCK + " Of now, not of its start, if it wrote nothing", """
            begin(0) 0
            commit(0) 0
            begin(0) 0
            begin(0) 1
            begin(0) 2
            write(1, 3, 1) 0
            write(2, 4, 1) 0
            commit(1) 1
            commit(2) 2
            commit(0) 2
            count(0) 2
            """);
    }

    private static void commitInVain() {
        SCRIPT.run(IN_VAIN + " Clock, versions and cells are as before", """
            begin(0) 0
            begin(0) 1
            write(0, 3, 1) 0
            write(0, 4, 1) 0
            write(1, 4, 2) 0
            write(1, 5, 2) 0
            commit(0) 1
            commit(1) -1
            count(0) 1
            count(2) 18
            past(4, 1) 1
            past(5, 1) 0
            begin(0) 0
            read(0, 4) 1
            read(0, 5) 0
            """);
        SCRIPT.run(IN_VAIN + " One cell of sixteen is enough", "begin(0) 0\nbegin(0) 1\n" + Rows.writeCells(0, 16, 0, 5) + """
            write(1, 15, 1) 0
            commit(1) 1
            commit(0) -1
            count(2) 17
            past(0, 1) 0
            """);
        SCRIPT.run(IN_VAIN + " It wrote nothing but saw", """
            begin(1) 0
            begin(0) 1
            read(0, 0) 0
            read(1, 0) 0
            begin(0) 2
            write(2, 0, 1) 0
            commit(2) 1
            commit(0) -1
            commit(1) 1
            """);
        SCRIPT.run(IN_VAIN + " It spoils nobody", """
            begin(0) 0
            begin(0) 1
            begin(1) 2
            write(0, 3, 1) 0
            write(1, 3, 1) 0
            write(1, 4, 1) 0
            read(2, 4) 0
            commit(0) 1
            commit(1) -1
            spoiled(2) false
            write(2, 4, 5) 0
            commit(2) 2
            """);
    }

    /** 28 times 18 calls and 8 more make 470 versions: no run of 512 calls comes to 500. */
    private static void commitOfTooMany() {
        String upTo496 = Rows.writeAllCells(30) + "count(2) 496\n";
        SCRIPT.runBeyondTheLimit(TOO_MANY + " The 500th is let in", upTo496 + "begin(0) 0\n"
            + Rows.writeCells(0, 4, 30, 31) + """
            commit(0) 31
            count(0) 31
            count(2) 500
            past(3, 31) 31
            past(4, 31) 30
            """);
        SCRIPT.runBeyondTheLimit(TOO_MANY + " The 501st is not", upTo496 + "begin(0) 0\n"
            + Rows.writeCells(0, 5, 30, 31) + """
            commit(0) throws.IllegalStateException
            commit(0) throws.IllegalStateException
            count(0) 30
            count(1) 1
            count(2) 496
            past(0, 30) 30
            past(0, 31) throws.NoSuchElementException
            """);
        SCRIPT.runBeyondTheLimit(TOO_MANY + " It stays as it was, and can be committed later", upTo496 + """
            begin(1) 0
            read(0, 9) 30
            """ + Rows.writeCells(0, 4, 30, 31) + """
            push(0) 2
            write(0, 4, 31) 30
            commit(0) throws.IllegalStateException
            about(0, 0) 30
            about(0, 1) 1
            about(0, 2) 2
            about(0, 3) 5
            about(0, 4) 1
            about(0, 5) 0
            read(0, 4) 31
            pop(0, false) 1
            commit(0) 31
            count(2) 500
            """);
        SCRIPT.runBeyondTheLimit(TOO_MANY + " Forgetting makes room", upTo496 + "begin(0) 0\n"
            + Rows.writeCells(0, 16, 30, 31) + """
            commit(0) throws.IllegalStateException
            forget() 480
            commit(0) 31
            count(2) 32
            past(15, 31) 31
            past(15, 30) 30
            """);
        SCRIPT.runBeyondTheLimit(TOO_MANY + " One that wrote nothing or is spoiled adds none", upTo496 + """
            begin(0) 0
            begin(0) 1
            begin(0) 2
            """ + Rows.writeCells(1, 4, 30, 31) + """
            write(2, 3, 32) 30
            commit(1) 31
            count(2) 500
            commit(0) 31
            commit(2) -1
            count(1) 0
            count(2) 500
            """);
    }

    private static void drop() {
        SCRIPT.run(DROPPED + " What it wrote is nowhere, nobody is spoiled", """
            begin(0) 0
            begin(1) 1
            write(0, 3, 1) 0
            read(1, 3) 0
            write(1, 3, 2) 0
            drop(0) 1
            drop(0) throws.NoSuchElementException
            count(0) 0
            count(1) 1
            count(2) 16
            past(3, 0) 0
            spoiled(1) false
            begin(0) 0
            read(0, 3) 0
            commit(1) 1
            """);
        SCRIPT.run(HAD_WRITTEN + " None, and what it saw does not count", """
            begin(1) 0
            read(0, 3) 0
            drop(0) 0
            """);
        SCRIPT.run(HAD_WRITTEN + " Each once, of all eight layers", "begin(0) 0\nwrite(0, 15, 1) 0\n"
            + Rows.each(2, 8, "push(0) #\nwrite(0, 15, #) #-1\nwrite(0, #, 1) 0") + "drop(0) 8\n");
        SCRIPT.run(HAD_WRITTEN + " All sixteen; kept ones, given up ones not", "begin(0) 0\n"
            + Rows.writeCells(0, 16, 0, 1) + """
            drop(0) 16
            begin(0) 0
            push(0) 2
            write(0, 1, 1) 0
            pop(0, true) 1
            push(0) 2
            write(0, 2, 1) 0
            pop(0, false) 1
            drop(0) 1
            """);
        SCRIPT.run(HAD_WRITTEN + " Of one that is spoiled, too", """
            begin(0) 0
            begin(0) 1
            write(0, 3, 1) 0
            write(0, 4, 1) 0
            write(1, 3, 1) 0
            commit(1) 1
            spoiled(0) true
            drop(0) 2
            """);
    }

    private static void spoiled() {
        SCRIPT.run(SOME_CELL + " The moment of the other's commit makes it so", """
            begin(0) 0
            begin(0) 1
            spoiled(0) false
            write(0, 15, 1) 0
            write(1, 15, 1) 0
            spoiled(0) false
            spoiled(1) false
            commit(1) 1
            spoiled(0) true
            spoiled(0) true
            """);
        SCRIPT.run(SOME_CELL + " One of sixteen, the lowest or the highest, is enough", """
            begin(1) 0
            begin(1) 1
            """ + Rows.each(0, 15, "read(0, #) 0") + """
            read(1, 15) 0
            begin(0) 2
            write(2, 0, 1) 0
            commit(2) 1
            spoiled(0) true
            spoiled(1) false
            begin(0) 2
            write(2, 15, 1) 0
            commit(2) 2
            spoiled(1) true
            about(0, 5) 2
            """);
        SCRIPT.run(SOME_CELL + " No more, once the layer went", """
            begin(0) 0
            begin(0) 1
            push(0) 2
            write(0, 3, 1) 0
            write(1, 3, 1) 0
            commit(1) 1
            spoiled(0) true
            pop(0, false) 1
            spoiled(0) false
            commit(0) 1
            """);
    }

    private static void meets() {
        SCRIPT.run(WOULD_SPOIL + ": one that wrote nothing spoils nothing", """
            begin(1) 0
            begin(1) 1
            read(0, 3) 0
            read(1, 3) 0
            meets(0, 1) false
            meets(1, 0) false
            write(1, 3, 1) 0
            meets(0, 1) false
            meets(1, 0) true
            push(1) 2
            meets(1, 0) true
            """);
        SCRIPT.run(WOULD_SPOIL + ": what b saw counts for kind 1 alone, a's kind does not", """
            begin(0) 0
            begin(1) 1
            begin(0) 2
            begin(1) 3
            read(2, 3) 0
            read(3, 3) 0
            write(0, 3, 1) 0
            write(1, 3, 1) 0
            meets(0, 2) false
            meets(1, 2) false
            meets(0, 3) true
            meets(1, 3) true
            meets(0, 1) true
            meets(1, 0) true
            """);
        SCRIPT.run(WOULD_SPOIL + ": what was given up does not count, of either, but what it saw does", """
            begin(0) 0
            begin(1) 1
            push(0) 2
            write(0, 3, 1) 0
            push(1) 2
            write(1, 3, 1) 0
            meets(0, 1) true
            meets(1, 0) true
            pop(1, false) 1
            meets(0, 1) false
            read(1, 3) 0
            meets(0, 1) true
            pop(0, false) 1
            meets(0, 1) false
            """);
        SCRIPT.run(WOULD_SPOIL + ": one of sixteen, the first or the last", """
            begin(0) 0
            begin(0) 1
            begin(0) 2
            """ + Rows.writeCells(0, 16, 0, 1) + """
            write(1, 0, 1) 0
            write(2, 15, 1) 0
            meets(0, 1) true
            meets(0, 2) true
            meets(1, 0) true
            meets(2, 0) true
            meets(1, 2) false
            meets(2, 1) false
            """);
        SCRIPT.run(WOULD_SPOIL + ": even if a is spoiled itself; b that began just now", """
            begin(0) 0
            begin(0) 1
            write(0, 3, 1) 0
            write(1, 3, 1) 0
            commit(1) 1
            begin(1) 1
            read(1, 3) 1
            spoiled(0) true
            spoiled(1) false
            meets(0, 1) true
            """);
        SCRIPT.run(THAT_IS_NOT + " The one cell is spoiled by now, another is not", """
            begin(0) 0
            begin(0) 1
            begin(1) 2
            read(2, 3) 0
            write(0, 3, 1) 0
            write(1, 3, 1) 0
            meets(0, 2) true
            commit(1) 1
            meets(0, 2) false
            write(0, 4, 1) 0
            meets(0, 2) false
            read(2, 4) 0
            spoiled(2) true
            meets(0, 2) true
            """);
        SCRIPT.run(NOT_ITSELF, """
            begin(1) 0
            meets(0, 0) false
            read(0, 3) 0
            write(0, 3, 1) 0
            meets(0, 0) false
            push(0) 2
            write(0, 4, 1) 0
            meets(0, 0) false
            drop(0) 2
            meets(0, 0) throws.NoSuchElementException
            """);
        SCRIPT.run(NOT_ITSELF + " Not if it is spoiled, either", """
            begin(1) 0
            begin(0) 1
            write(0, 3, 1) 0
            write(0, 4, 1) 0
            write(1, 3, 1) 0
            commit(1) 1
            meets(0, 0) false
            """);
    }

    private static void past() {
        SCRIPT.run(AT_A_CLOCK + " Just before, at and after each write", """
            begin(0) 0
            write(0, 1, 1) 0
            commit(0) 1
            begin(0) 0
            write(0, 3, 33) 0
            commit(0) 2
            begin(0) 0
            write(0, 1, 1) 1
            commit(0) 3
            begin(0) 0
            write(0, 3, 44) 33
            past(3, 3) 33
            commit(0) 4
            past(3, 0) 0
            past(3, 1) 0
            past(3, 2) 33
            past(3, 3) 33
            past(3, 4) 44
            """);
        SCRIPT.run(OTHER_CLOCK + ": on a new object", Rows.forThese("past(3, #) throws.NoSuchElementException",
            -1, 1, 2, Integer.MAX_VALUE, Integer.MIN_VALUE) + "past(3, 0) 0\n");
        SCRIPT.run(OTHER_CLOCK + ": the newest, the next, the one before 0", """
            begin(0) 0
            write(0, 3, 1) 0
            past(3, 1) throws.NoSuchElementException
            commit(0) 1
            past(3, 1) 1
            past(4, 1) 0
            past(3, 2) throws.NoSuchElementException
            past(3, -1) throws.NoSuchElementException
            past(4, 2) throws.NoSuchElementException
            past(4, -1) throws.NoSuchElementException
            past(3, 2147483647) throws.NoSuchElementException
            past(3, -2147483648) throws.NoSuchElementException
            """);
        SCRIPT.run(FORGOTTEN + " Up to the clock before the oldest that is kept", """
            begin(0) 0
            write(0, 3, 1) 0
            commit(0) 1
            begin(0) 0
            write(0, 4, 1) 0
            commit(0) 2
            begin(0) 0
            write(0, 3, 2) 1
            commit(0) 3
            begin(0) 0
            write(0, 4, 2) 1
            commit(0) 4
            past(3, 0) 0
            past(3, 2) 1
            forget() 4
            past(3, 0) throws.NoSuchElementException
            past(3, 1) throws.NoSuchElementException
            past(3, 2) throws.NoSuchElementException
            past(3, 3) 2
            past(3, 4) 2
            past(4, 3) throws.NoSuchElementException
            past(4, 4) 2
            past(5, 0) 0
            past(5, 4) 0
            """);
        SCRIPT.run(FORGOTTEN + " Not before forget, though nobody may see it", """
            begin(0) 0
            write(0, 3, 1) 0
            commit(0) 1
            past(3, 0) 0
            begin(0) 0
            past(3, 0) 0
            forget() 1
            past(3, 0) throws.NoSuchElementException
            """);
    }

    private static void forget() {
        SCRIPT.run(BEHIND + ": one of the floor's clock is not above it", """
            begin(0) 0
            write(0, 3, 1) 0
            commit(0) 1
            begin(0) 0
            begin(0) 1
            write(1, 3, 2) 1
            commit(1) 2
            count(3) 1
            forget() 1
            past(3, 0) throws.NoSuchElementException
            past(3, 1) 1
            past(3, 2) 2
            read(0, 3) 1
            """);
        SCRIPT.run(BEHIND + ": one of the clock after it is", """
            begin(0) 0
            begin(0) 1
            write(1, 3, 1) 0
            commit(1) 1
            begin(0) 1
            write(1, 3, 2) 1
            commit(1) 2
            count(3) 0
            forget() 0
            count(2) 18
            past(3, 0) 0
            past(3, 1) 1
            read(0, 3) 0
            """);
        SCRIPT.run(BEHIND + ": one below it, of another cell not", """
            begin(0) 0
            write(0, 3, 1) 0
            commit(0) 1
            begin(0) 0
            write(0, 4, 1) 0
            commit(0) 2
            begin(0) 0
            forget() 2
            past(3, 0) throws.NoSuchElementException
            past(3, 1) 1
            past(4, 1) throws.NoSuchElementException
            past(4, 2) 1
            past(5, 0) 0
            """);
        SCRIPT.run(BEHIND + ": of one open the start is the floor, though it saw nothing and others began later", """
            begin(0) 0
            begin(0) 1
            write(1, 3, 1) 0
            commit(1) 1
            begin(0) 1
            write(1, 3, 2) 1
            commit(1) 2
            begin(0) 1
            forget() 0
            drop(0) 0
            forget() 2
            count(2) 16
            read(1, 3) 2
            """);
        SCRIPT.run(HOW_MANY_GO + " None on a new object, none the second time, nothing of an open one's own", """
            forget() 0
            count(2) 16
            begin(0) 0
            write(0, 3, 1) 0
            forget() 0
            read(0, 3) 1
            commit(0) 1
            forget() 1
            forget() 0
            count(2) 16
            """);
        SCRIPT.run(HOW_MANY_GO + " Many at once, the newest of each stay", Rows.writeAllCells(26) + """
            count(2) 432
            forget() 416
            count(2) 16
            """ + Rows.each(0, 15, "past(#, 26) 26") + """
            past(0, 25) throws.NoSuchElementException
            past(15, 25) throws.NoSuchElementException
            begin(0) 0
            read(0, 15) 26
            count(0) 26
            """);
    }

    private static void about() {
        SCRIPT.run(ABOUT + " The least of each", """
            begin(0) 0
            about(0, 0) 0
            about(0, 1) 0
            about(0, 2) 1
            about(0, 3) 0
            about(0, 4) 0
            about(0, 5) 0
            """);
        SCRIPT.run(ABOUT + " The most of each", "begin(0) 0\nwrite(0, 0, 0) 0\ncommit(0) 1\n"
            + Rows.each(0, 15, "begin(1) #") + Rows.each(0, 15, "read(15, #) 0") + Rows.writeCells(15, 16, 0, 1)
            + Rows.each(2, 8, "push(15) #") + Rows.writeCells(15, 16, 1, 2) + Rows.writeCells(0, 16, 0, 1) + """
            about(15, 5) 0
            commit(0) 2
            about(15, 0) 1
            about(15, 1) 1
            about(15, 2) 8
            about(15, 3) 16
            about(15, 4) 16
            about(15, 5) 16
            """);
        SCRIPT.run(ABOUT + " A cell that more layers wrote counts once, a given up one not", """
            begin(0) 0
            write(0, 3, 1) 0
            push(0) 2
            write(0, 3, 1) 1
            write(0, 4, 1) 0
            about(0, 3) 2
            pop(0, false) 1
            about(0, 3) 1
            """);
        SCRIPT.run(ABOUT + " Seen of kind 0, too, spoiled then not", """
            begin(0) 0
            read(0, 3) 0
            about(0, 4) 1
            begin(0) 1
            write(1, 3, 1) 0
            commit(1) 1
            about(0, 5) 0
            """);
        SCRIPT.run(OTHER_WHAT, "begin(0) 0\n" + Rows.forThese("about(0, #) throws.IllegalArgumentException",
            -1, 6, 7, 8, 16, 256, 65536, Integer.MAX_VALUE, Integer.MIN_VALUE) + "about(0, 5) 0\nabout(0, 0) 0\n");
    }

    private static void count() {
        SCRIPT.run(COUNT + " None and sixteen open", "count(1) 0\n" + Rows.each(0, 15, "count(1) #\nbegin(0) #") + """
            count(1) 16
            begin(0) throws.IllegalStateException
            count(1) 16
            drop(0) 0
            count(1) 15
            drop(15) 0
            count(1) 14
            """);
        SCRIPT.run(COUNT + " Each by another number", """
            begin(0) 0
            write(0, 3, 1) 0
            commit(0) 1
            begin(0) 0
            begin(0) 1
            begin(0) 2
            write(1, 3, 1) 1
            write(1, 4, 1) 0
            write(1, 5, 1) 0
            commit(1) 2
            begin(0) 1
            begin(0) 3
            begin(0) 4
            write(4, 9, 1) 0
            commit(4) 3
            count(0) 3
            count(1) 4
            count(2) 21
            count(3) 1
            forget() 1
            count(2) 20
            count(0) 3
            count(3) 1
            """);
        SCRIPT.run(ELSE, Rows.forThese("count(#) -1", -1, 4, 5, 8, 16, 256, 65536, Integer.MAX_VALUE, Integer.MIN_VALUE)
            + "begin(0) 0\n" + Rows.forThese("count(#) -1", -1, 4));
    }
}
