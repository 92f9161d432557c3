/** Each promise of the document in its ordinary course. Its edges are in EdgesOfTermsTest and EdgesOfPromisesTest. */
public final class PromisesTest {
    private static final String NO_SUCH = " throws.NoSuchElementException\n";
    private static final Script SCRIPT = new Script();

    public static void main(String[] args) {
        newObject();
        begin();
        read();
        write();
        push();
        pop();
        commit();
        drop();
        spoiled();
        meets();
        past();
        forget();
        about();
        count();
        whatIsNotThere();
        SCRIPT.end();
    }

    private static void newObject() {
        SCRIPT.run("1: a new object", """
            count(0) 0
            count(1) 0
            count(2) 16
            count(3) 0
            past(0, 0) 0
            past(15, 0) 0
            past(0, 1) throws.NoSuchElementException
            about(0, 0) throws.NoSuchElementException
            forget() 0
            """);
    }

    private static void begin() {
        SCRIPT.run("2: the least number that is not open", """
            begin(0) 0
            begin(1) 1
            begin(0) 2
            about(1, 1) 1
            about(2, 1) 0
            drop(1) 0
            drop(0) 0
            begin(1) 0
            about(0, 1) 1
            begin(0) 1
            about(1, 1) 0
            begin(0) 3
            """);
        SCRIPT.run("2: begins at the clock of now", """
            begin(0) 0
            write(0, 0, 1) 0
            commit(0) 1
            begin(0) 0
            about(0, 0) 1
            begin(1) 1
            about(1, 0) 1
            """);
        SCRIPT.run("2: a number that is used again has nothing of the one before", """
            begin(1) 0
            read(0, 3) 0
            write(0, 4, 9) 0
            push(0) 2
            write(0, 5, 9) 0
            drop(0) 2
            begin(0) 0
            about(0, 1) 0
            about(0, 2) 1
            about(0, 3) 0
            about(0, 4) 0
            read(0, 4) 0
            push(0) 2
            read(0, 5) 0
            about(0, 3) 0
            """);
        SCRIPT.run("2: another kind", """
            begin(-1) throws.IllegalArgumentException
            begin(2) throws.IllegalArgumentException
            begin(2147483647) throws.IllegalArgumentException
            begin(-2147483648) throws.IllegalArgumentException
            count(1) 0
            """);
        SCRIPT.run("2: all are open", Rows.each(0, 15, "begin(0) #") + """
            begin(0) throws.IllegalStateException
            begin(1) throws.IllegalStateException
            begin(2) throws.IllegalArgumentException
            count(1) 16
            drop(15) 0
            begin(1) 15
            begin(1) throws.IllegalStateException
            drop(7) 0
            begin(1) 7
            """);
    }

    private static void read() {
        SCRIPT.run("3: what was there at the start", """
            begin(0) 0
            begin(0) 1
            write(0, 2, 9) 0
            read(1, 2) 0
            commit(0) 1
            read(1, 2) 0
            begin(0) 0
            read(0, 2) 9
            write(0, 2, 10) 9
            commit(0) 2
            begin(0) 0
            read(0, 2) 10
            read(1, 2) 0
            read(1, 3) 0
            """);
        SCRIPT.run("3: what the highest layer wrote", """
            begin(0) 0
            write(0, 2, 1) 0
            push(0) 2
            read(0, 2) 1
            write(0, 2, 2) 1
            push(0) 3
            write(0, 3, 3) 0
            read(0, 2) 2
            read(0, 3) 3
            read(0, 4) 0
            """);
        SCRIPT.run("3: only what no layer wrote is seen, once", """
            begin(0) 0
            read(0, 0) 0
            read(0, 0) 0
            read(0, 15) 0
            about(0, 4) 2
            write(0, 3, 1) 0
            read(0, 3) 1
            about(0, 4) 2
            push(0) 2
            read(0, 3) 1
            about(0, 4) 2
            write(0, 0, 1) 0
            about(0, 4) 2
            """);
        SCRIPT.run("3: what was seen in a layer that went is seen", """
            begin(1) 0
            push(0) 2
            read(0, 1) 0
            write(0, 2, 7) 0
            pop(0, false) 1
            about(0, 4) 1
            read(0, 2) 0
            about(0, 4) 2
            """);
    }

    private static void write() {
        SCRIPT.run("4: what reading would have been", """
            begin(1) 0
            write(0, 0, 5) 0
            write(0, 0, -6) 5
            write(0, 15, 9223372036854775807) 0
            write(0, 15, -9223372036854775808) 9223372036854775807
            read(0, 15) -9223372036854775808
            push(0) 2
            write(0, 0, 7) -6
            about(0, 4) 0
            pop(0, false) 1
            write(0, 0, 8) -6
            commit(0) 1
            begin(0) 0
            write(0, 0, 1) 8
            write(0, 15, 1) -9223372036854775808
            about(0, 4) 0
            """);
        SCRIPT.run("4: not seen, so no spoiling once its layer went", """
            begin(1) 0
            push(0) 2
            write(0, 4, 1) 0
            pop(0, false) 1
            begin(0) 1
            write(1, 4, 2) 0
            commit(1) 1
            spoiled(0) false
            commit(0) 1
            """);
        SCRIPT.run("4: nobody else sees it before the commit", """
            begin(0) 0
            begin(0) 1
            write(0, 4, 1) 0
            read(1, 4) 0
            begin(0) 2
            read(2, 4) 0
            past(4, 0) 0
            """);
    }

    private static void push() {
        SCRIPT.run("5: up to 8 layers", """
            begin(0) 0
            about(0, 2) 1
            push(0) 2
            push(0) 3
            push(0) 4
            push(0) 5
            push(0) 6
            push(0) 7
            push(0) 8
            write(0, 1, 8) 0
            push(0) throws.IllegalStateException
            about(0, 2) 8
            read(0, 1) 8
            pop(0, false) 7
            push(0) 8
            read(0, 1) 0
            """);
        SCRIPT.run("5: a new layer wrote nothing, each has its own", """
            begin(0) 0
            begin(0) 1
            push(0) 2
            write(0, 1, 4) 0
            pop(0, true) 1
            push(0) 2
            pop(0, false) 1
            read(0, 1) 4
            about(0, 3) 1
            push(0) 2
            about(1, 2) 1
            """);
    }

    private static void pop() {
        SCRIPT.run("6: kept or given up", """
            begin(0) 0
            write(0, 1, 1) 0
            write(0, 2, 1) 0
            push(0) 2
            write(0, 2, 2) 1
            write(0, 3, 2) 0
            push(0) 3
            write(0, 3, 3) 2
            write(0, 4, 3) 0
            pop(0, true) 2
            read(0, 1) 1
            read(0, 2) 2
            read(0, 3) 3
            read(0, 4) 3
            about(0, 3) 4
            pop(0, false) 1
            read(0, 1) 1
            read(0, 2) 1
            read(0, 3) 0
            read(0, 4) 0
            about(0, 3) 2
            """);
        SCRIPT.run("6: kept all the way down", """
            begin(0) 0
            push(0) 2
            push(0) 3
            write(0, 0, 5) 0
            write(0, 15, 6) 0
            pop(0, true) 2
            pop(0, true) 1
            commit(0) 1
            past(0, 1) 5
            past(15, 1) 6
            """);
        SCRIPT.run("6: one alone", """
            begin(0) 0
            write(0, 0, 5) 0
            pop(0, true) throws.IllegalStateException
            pop(0, false) throws.IllegalStateException
            about(0, 2) 1
            read(0, 0) 5
            push(0) 2
            pop(0, false) 1
            pop(0, false) throws.IllegalStateException
            pop(1, false) throws.NoSuchElementException
            """);
    }

    private static void commit() {
        SCRIPT.run("7: of one that wrote", """
            begin(0) 0
            write(0, 1, 1) 0
            push(0) 2
            write(0, 1, 2) 1
            write(0, 2, 3) 0
            push(0) 3
            write(0, 0, 0) 0
            commit(0) 1
            commit(0) throws.NoSuchElementException
            count(0) 1
            count(1) 0
            count(2) 19
            past(0, 1) 0
            past(1, 1) 2
            past(2, 1) 3
            past(1, 0) 0
            past(3, 1) 0
            """);
        SCRIPT.run("7: of one that wrote nothing", """
            begin(0) 0
            commit(0) 0
            begin(1) 0
            read(0, 3) 0
            push(0) 2
            write(0, 3, 1) 0
            pop(0, false) 1
            commit(0) 0
            count(0) 0
            count(1) 0
            count(2) 16
            """);
        SCRIPT.run("7: the first wins", """
            begin(0) 0
            begin(0) 1
            write(0, 5, 1) 0
            write(1, 5, 2) 0
            write(1, 6, 2) 0
            commit(1) 1
            commit(0) -1
            commit(0) throws.NoSuchElementException
            count(0) 1
            count(1) 0
            count(2) 18
            past(5, 1) 2
            begin(0) 0
            write(0, 5, 3) 2
            commit(0) 2
            """);
        SCRIPT.run("7: what kind 1 saw spoils even one that wrote nothing, or elsewhere", """
            begin(1) 0
            begin(0) 1
            begin(0) 2
            begin(1) 3
            read(0, 5) 0
            read(1, 5) 0
            read(3, 5) 0
            write(3, 6, 1) 0
            write(2, 5, 1) 0
            commit(2) 1
            commit(0) -1
            commit(1) 1
            commit(3) -1
            count(0) 1
            past(6, 1) 0
            """);
        SCRIPT.run("7: two that do not get into each other's way", """
            begin(1) 0
            begin(1) 1
            read(0, 1) 0
            read(1, 1) 0
            write(0, 2, 7) 0
            write(1, 3, 8) 0
            commit(1) 1
            commit(0) 2
            past(2, 1) 0
            past(2, 2) 7
            past(3, 1) 8
            """);
    }

    private static void drop() {
        SCRIPT.run("8: how many cells it had written", """
            begin(0) 0
            begin(1) 1
            write(0, 1, 1) 0
            write(0, 1, 2) 1
            push(0) 2
            write(0, 1, 3) 2
            write(0, 2, 3) 0
            push(0) 3
            write(0, 9, 3) 0
            pop(0, false) 2
            read(0, 8) 0
            drop(0) 2
            drop(0) throws.NoSuchElementException
            drop(1) 0
            count(0) 0
            count(1) 0
            count(2) 16
            past(1, 0) 0
            """);
    }

    private static void spoiled() {
        SCRIPT.run("9: by what it wrote, of both kinds", """
            begin(0) 0
            begin(1) 1
            begin(0) 2
            write(0, 3, 1) 0
            push(1) 2
            write(1, 3, 1) 0
            spoiled(0) false
            spoiled(1) false
            write(2, 3, 1) 0
            spoiled(0) false
            commit(2) 1
            spoiled(0) true
            spoiled(1) true
            pop(1, false) 1
            spoiled(1) false
            commit(1) 1
            """);
        SCRIPT.run("9: by what it saw, of kind 1 alone", """
            begin(0) 0
            begin(1) 1
            read(0, 3) 0
            begin(0) 2
            write(2, 3, 1) 0
            commit(2) 1
            read(1, 3) 0
            spoiled(0) false
            spoiled(1) true
            write(0, 3, 5) 0
            spoiled(0) true
            """);
        SCRIPT.run("9: by a commit of the same number too, not by one up to its start", """
            begin(0) 0
            write(0, 3, 4) 0
            commit(0) 1
            begin(1) 0
            read(0, 3) 4
            write(0, 3, 4) 4
            spoiled(0) false
            begin(1) 1
            begin(0) 2
            write(2, 3, 4) 4
            commit(2) 2
            spoiled(0) true
            spoiled(1) false
            begin(1) 2
            read(2, 3) 4
            spoiled(2) false
            """);
        SCRIPT.run("9: by a commit that was forgotten else", """
            begin(1) 0
            read(0, 3) 0
            begin(0) 1
            write(1, 3, 4) 0
            commit(1) 1
            begin(0) 1
            write(1, 3, 5) 4
            commit(1) 2
            forget() 0
            spoiled(0) true
            about(0, 5) 1
            """);
        SCRIPT.run("9: not by its own layers or by a drop", """
            begin(1) 0
            begin(1) 1
            read(0, 3) 0
            write(0, 3, 1) 0
            write(1, 3, 1) 0
            spoiled(0) false
            drop(1) 1
            spoiled(0) false
            commit(0) 1
            """);
    }

    private static void meets() {
        SCRIPT.run("10: what one wrote and the other wrote or saw", """
            begin(0) 0
            begin(1) 1
            begin(0) 2
            write(0, 3, 1) 0
            meets(0, 1) false
            read(1, 3) 0
            read(2, 3) 0
            meets(0, 1) true
            meets(1, 0) false
            meets(0, 2) false
            push(2) 2
            write(2, 3, 1) 0
            meets(0, 2) true
            meets(2, 0) true
            meets(2, 1) true
            meets(0, 0) false
            meets(2, 2) false
            pop(2, false) 1
            meets(0, 2) false
            meets(2, 0) false
            """);
        SCRIPT.run("10: only a cell that is not spoiled yet", """
            begin(0) 0
            begin(0) 1
            begin(0) 2
            write(0, 3, 1) 0
            write(1, 3, 1) 0
            write(2, 3, 1) 0
            meets(1, 2) true
            commit(0) 1
            meets(1, 2) false
            write(2, 4, 1) 0
            meets(1, 2) false
            write(1, 4, 1) 0
            meets(1, 2) true
            spoiled(1) true
            """);
        SCRIPT.run("10: as if one that is spoiled wrote", """
            begin(0) 0
            begin(0) 1
            write(0, 3, 1) 0
            write(1, 3, 1) 0
            commit(0) 1
            begin(0) 0
            write(0, 3, 2) 1
            spoiled(1) true
            meets(1, 0) true
            meets(0, 1) false
            """);
        SCRIPT.run("10: one that is not open", """
            begin(0) 0
            meets(0, 1) throws.NoSuchElementException
            meets(1, 0) throws.NoSuchElementException
            meets(1, 1) throws.NoSuchElementException
            meets(0, 16) throws.NoSuchElementException
            meets(-1, 0) throws.NoSuchElementException
            """);
    }

    private static void past() {
        SCRIPT.run("11: at each clock", """
            begin(0) 0
            write(0, 1, 10) 0
            commit(0) 1
            begin(0) 0
            write(0, 2, 20) 0
            commit(0) 2
            begin(0) 0
            write(0, 1, 30) 10
            past(1, 2) 10
            commit(0) 3
            past(1, 0) 0
            past(1, 1) 10
            past(1, 2) 10
            past(1, 3) 30
            past(2, 1) 0
            past(2, 2) 20
            past(2, 3) 20
            past(15, 3) 0
            past(1, 4) throws.NoSuchElementException
            past(1, -1) throws.NoSuchElementException
            past(1, 2147483647) throws.NoSuchElementException
            past(1, -2147483648) throws.NoSuchElementException
            past(16, 0) throws.NoSuchElementException
            past(-1, 0) throws.NoSuchElementException
            """);
        SCRIPT.run("11: what is forgotten", """
            begin(0) 0
            write(0, 1, 10) 0
            commit(0) 1
            begin(0) 0
            write(0, 2, 20) 0
            commit(0) 2
            begin(0) 0
            write(0, 1, 30) 10
            commit(0) 3
            past(1, 0) 0
            forget() 3
            past(1, 0) throws.NoSuchElementException
            past(1, 1) throws.NoSuchElementException
            past(1, 2) throws.NoSuchElementException
            past(1, 3) 30
            past(2, 1) throws.NoSuchElementException
            past(2, 2) 20
            past(3, 0) 0
            past(3, 3) 0
            """);
    }

    private static void forget() {
        SCRIPT.run("12: what nobody may see", """
            forget() 0
            begin(0) 0
            write(0, 1, 10) 0
            commit(0) 1
            begin(0) 0
            begin(0) 1
            write(1, 1, 20) 10
            write(1, 2, 20) 0
            commit(1) 2
            begin(0) 1
            begin(0) 2
            write(2, 1, 30) 20
            commit(2) 3
            count(2) 20
            count(3) 1
            forget() 1
            forget() 0
            count(2) 19
            past(1, 0) throws.NoSuchElementException
            past(1, 1) 10
            past(2, 1) 0
            past(1, 2) 20
            read(0, 1) 10
            read(0, 2) 0
            read(1, 1) 20
            drop(0) 0
            count(3) 2
            forget() 2
            read(1, 1) 20
            past(1, 1) throws.NoSuchElementException
            past(2, 1) throws.NoSuchElementException
            past(1, 2) 20
            drop(1) 0
            count(3) 3
            forget() 1
            count(2) 16
            past(1, 3) 30
            past(2, 3) 20
            """);
        SCRIPT.run("12: a version of the floor's clock covers the older ones", """
            begin(0) 0
            write(0, 7, 1) 0
            commit(0) 1
            begin(0) 0
            forget() 1
            read(0, 7) 1
            past(7, 0) throws.NoSuchElementException
            past(7, 1) 1
            """);
        SCRIPT.run("12: one above the floor does not", """
            begin(0) 0
            begin(0) 1
            write(1, 7, 1) 0
            commit(1) 1
            forget() 0
            count(2) 17
            read(0, 7) 0
            past(7, 0) 0
            """);
    }

    private static void about() {
        SCRIPT.run("13: of an open one", """
            begin(0) 0
            write(0, 0, 1) 0
            commit(0) 1
            begin(1) 0
            begin(0) 1
            about(0, 0) 1
            about(0, 1) 1
            about(1, 1) 0
            about(0, 2) 1
            read(0, 1) 0
            read(0, 2) 0
            read(0, 3) 0
            push(0) 2
            write(0, 3, 1) 0
            write(0, 4, 1) 0
            push(0) 3
            write(0, 4, 2) 1
            about(0, 2) 3
            about(0, 3) 2
            about(0, 4) 3
            about(0, 5) 0
            write(1, 2, 1) 0
            write(1, 3, 1) 0
            write(1, 4, 1) 0
            write(1, 5, 1) 0
            commit(1) 2
            about(0, 0) 1
            about(0, 5) 3
            pop(0, false) 2
            about(0, 5) 3
            pop(0, false) 1
            about(0, 3) 0
            about(0, 5) 2
            """);
        SCRIPT.run("13: another what", """
            about(0, 6) throws.NoSuchElementException
            begin(0) 0
            about(0, 6) throws.IllegalArgumentException
            about(0, -1) throws.IllegalArgumentException
            about(0, 2147483647) throws.IllegalArgumentException
            about(0, -2147483648) throws.IllegalArgumentException
            about(1, -1) throws.NoSuchElementException
            about(16, 0) throws.NoSuchElementException
            """);
    }

    private static void count() {
        SCRIPT.run("14: what there is", """
            begin(0) 0
            begin(0) 1
            count(1) 2
            count(3) 0
            write(1, 1, 1) 0
            write(1, 2, 1) 0
            count(2) 16
            commit(1) 1
            count(0) 1
            count(1) 1
            count(2) 18
            count(3) 0
            begin(0) 1
            count(3) 0
            drop(0) 0
            begin(0) 0
            write(0, 3, 1) 0
            commit(0) 2
            count(3) 1
            drop(1) 0
            count(0) 2
            count(3) 2
            count(1) 0
            count(-1) -1
            count(4) -1
            count(2147483647) -1
            count(-2147483648) -1
            """);
    }

    private static void whatIsNotThere() {
        SCRIPT.run("terms: a transaction that is not open", withNumber("-1") + withNumber("0") + withNumber("16")
            + withNumber("2147483647") + withNumber("-2147483648") + """
            begin(0) 0
            count(1) 1
            count(2) 16
            """);
        SCRIPT.run("terms: a cell that there is not", "begin(1) 0\nwrite(0, 15, 3) 0\n" + withCell("-1")
            + withCell("16") + withCell("2147483647") + withCell("-2147483648") + """
            read(0, 0) 0
            read(0, 15) 3
            about(0, 3) 1
            about(0, 4) 1
            """);
    }

    private static String withNumber(String t) {
        return "read(" + t + ", 0)" + NO_SUCH
            + "read(" + t + ", 16)" + NO_SUCH
            + "write(" + t + ", 0, 1)" + NO_SUCH
            + "push(" + t + ")" + NO_SUCH
            + "pop(" + t + ", true)" + NO_SUCH
            + "pop(" + t + ", false)" + NO_SUCH
            + "commit(" + t + ")" + NO_SUCH
            + "drop(" + t + ")" + NO_SUCH
            + "spoiled(" + t + ")" + NO_SUCH
            + "meets(" + t + ", " + t + ")" + NO_SUCH
            + "about(" + t + ", 0)" + NO_SUCH
            + "about(" + t + ", 9)" + NO_SUCH;
    }

    private static String withCell(String cell) {
        return "read(0, " + cell + ")" + NO_SUCH
            + "write(0, " + cell + ", 1)" + NO_SUCH
            + "past(" + cell + ", 0)" + NO_SUCH
            + "past(" + cell + ", 1)" + NO_SUCH;
    }
}
