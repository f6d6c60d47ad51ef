/**
 * Promises 16 to 23: one run for each of their sentences that names a boundary. A title is the
 * promise's number and the sentence.
 */
public final class StateBoundaryTest {
    private static final String ONE_SERVICE = """
        hire 2 0 600 => 0
        addService 1 20 => 0
        """;

    public static void main(String[] args) {
        visits();
        startOf();
        staffOf();
        chairOf();
        serviceOf();
        loadOf();
        loadOfChanges();
        staffAtArguments();
        staffAt();
        chairAtArguments();
        chairAt();
        Script.end();
    }

    private static void visits() {
        Script.run("16: how many visits were booked: none in a new book", """
            visits => 0
            """);
        Script.run("16: how many visits were booked: up to thirty", ONE_SERVICE
            + Script.counting("book 0 0", 0, 29) + """
            visits => 30
            book 0 0 => IllegalState
            visits => 30
            """);
        Script.run("16: those that were dropped included", ONE_SERVICE + """
            book 0 0 => 0
            book 0 0 => 1
            drop 0 => 0
            visits => 2
            drop 1 => 0
            visits => 2
            book 0 0 => 2
            visits => 3
            """);
        Script.run("16: those that were requests included, requests that wait not", ONE_SERVICE + """
            book 0 0 => 0
            request 0 0 => 1
            request 0 0 => 2
            visits => 1
            drop 0 => 1
            visits => 2
            """);
        Script.run("16: one that is moved is booked once", ONE_SERVICE + """
            book 0 0 => 0
            move 0 100 => 100
            visits => 1
            """);
        Script.run("16: one that has no place is not booked", ONE_SERVICE + """
            book 0 581 => NoSuchElement
            bookWith 0 0 581 => NoSuchElement
            visits => 0
            """);
    }

    /** Each of the four questions of a visit has the same boundaries. */
    private static String noSuchVisit(String name, int first, int second) {
        return ("""
            hire 2 0 600 => 0
            hire 2 0 600 => 1
            addService 1 20 => 0
            addService 1 10 => 1
            ASK 0 => IndexOutOfBounds
            book 0 5 => 0
            ASK 0 => FIRST
            ASK 1 => IndexOutOfBounds
            book 1 0 => 1
            ASK 1 => SECOND
            ASK 2 => IndexOutOfBounds
            ASK -1 => IndexOutOfBounds
            ASK MAX => IndexOutOfBounds
            ASK MIN => IndexOutOfBounds
            """).replace("ASK", name).replace("FIRST", "" + first).replace("SECOND", "" + second);
    }

    /** The thirtieth of visits that lie one behind the other. */
    private static String lastVisit(String name, int last) {
        return ONE_SERVICE + Script.counting("book 0 0", 0, 29)
            + (name + " 29 => " + last + "\n") + (name + " 30 => IndexOutOfBounds\n");
    }

    private static void startOf() {
        Script.run("17: the minute, 0 to 599", """
            hire 2 0 600 => 0
            addService 1 1 => 0
            book 0 0 => 0
            book 0 599 => 1
            startOf 0 => 0
            startOf 1 => 599
            """);
        Script.run("17: the minute: where it was moved to", ONE_SERVICE + """
            book 0 0 => 0
            move 0 300 => 300
            startOf 0 => 300
            """);
        Script.run("17: NONE if it was dropped", ONE_SERVICE + """
            book 0 0 => 0
            book 0 100 => 1
            drop 0 => 0
            startOf 0 => -1
            startOf 1 => 100
            """);
        Script.run("17: IndexOutOfBoundsException if there is no such visit", noSuchVisit("startOf", 5, 0));
        Script.run("17: IndexOutOfBoundsException behind the thirtieth", lastVisit("startOf", 580));
    }

    private static void staffOf() {
        Script.run("18: the member of staff, 0 to 4", """
            hire 2 0 600 => 0
            hire 2 0 600 => 1
            hire 2 0 600 => 2
            hire 2 0 600 => 3
            hire 2 0 600 => 4
            addService 1 20 => 0
            bookWith 0 4 0 => 0
            bookWith 0 0 0 => 1
            staffOf 0 => 4
            staffOf 1 => 0
            """);
        Script.run("18: the member of staff: who it was moved to", """
            hire 2 0 300 => 0
            hire 2 300 600 => 1
            addService 1 20 => 0
            book 0 0 => 0
            staffOf 0 => 0
            move 0 300 => 300
            staffOf 0 => 1
            """);
        Script.run("18: NONE if it was dropped", ONE_SERVICE + """
            book 0 0 => 0
            book 0 100 => 1
            drop 0 => 0
            staffOf 0 => -1
            staffOf 1 => 0
            """);
        Script.run("18: IndexOutOfBoundsException if there is no such visit", noSuchVisit("staffOf", 0, 1));
        Script.run("18: IndexOutOfBoundsException behind the thirtieth", lastVisit("staffOf", 0));
    }

    private static void chairOf() {
        Script.run("19: the chair, 0 to 3", """
            hire 2 0 600 => 0
            hire 2 0 600 => 1
            hire 2 0 600 => 2
            hire 2 0 600 => 3
            addService 1 20 => 0
            book 0 0 => 0
            book 0 0 => 1
            book 0 0 => 2
            book 0 0 => 3
            chairOf 0 => 0
            chairOf 3 => 3
            """);
        Script.run("19: the chair: which it was moved to", """
            hire 2 0 600 => 0
            hire 2 0 600 => 1
            addService 1 20 => 0
            book 0 0 => 0
            book 0 100 => 1
            move 1 0 => 0
            chairOf 1 => 1
            move 1 100 => 100
            chairOf 1 => 0
            """);
        Script.run("19: NONE if it was dropped", ONE_SERVICE + """
            book 0 0 => 0
            book 0 100 => 1
            drop 0 => 0
            chairOf 0 => -1
            chairOf 1 => 0
            """);
        Script.run("19: IndexOutOfBoundsException if there is no such visit", noSuchVisit("chairOf", 0, 1));
        Script.run("19: IndexOutOfBoundsException behind the thirtieth", lastVisit("chairOf", 0));
    }

    private static void serviceOf() {
        Script.run("20: the service, 0 to 7", "hire 15 0 600 => 0\n"
            + Script.counting("addUsual 3", 0, 7) + """
            book 7 0 => 0
            book 0 0 => 1
            serviceOf 0 => 7
            serviceOf 1 => 0
            """);
        Script.run("20: also if it was dropped", """
            hire 2 0 600 => 0
            addService 2 20 => 0
            addService 1 20 => 1
            book 1 0 => 0
            drop 0 => 0
            serviceOf 0 => 1
            """);
        Script.run("20: IndexOutOfBoundsException if there is no such visit", noSuchVisit("serviceOf", 0, 1));
        Script.run("20: IndexOutOfBoundsException behind the thirtieth", lastVisit("serviceOf", 0));
    }

    private static void loadOf() {
        Script.run("21: the minutes: 0 without visits", """
            hire 2 0 600 => 0
            hire 2 0 600 => 1
            addService 1 20 => 0
            loadOf 0 => 0
            bookWith 0 1 0 => 0
            loadOf 0 => 0
            loadOf 1 => 20
            """);
        Script.run("21: the minutes: up to all of the day", ONE_SERVICE
            + Script.counting("book 0 0", 0, 29) + """
            loadOf 0 => 600
            """);
        Script.run("21: the minutes: without rests", """
            hire 2 0 600 => 0
            addService 1 1 => 0
            addStep 0 -1 200 => 2
            addStep 0 1 2 => 3
            addStep 0 -1 200 => 4
            book 0 0 => 0
            loadOf 0 => 3
            """);
        Script.run("21: IndexOutOfBoundsException if there is no such member of staff", """
            loadOf 0 => IndexOutOfBounds
            hire 2 0 600 => 0
            loadOf 0 => 0
            loadOf 1 => IndexOutOfBounds
            loadOf -1 => IndexOutOfBounds
            loadOf MAX => IndexOutOfBounds
            loadOf MIN => IndexOutOfBounds
            """);
        Script.run("21: IndexOutOfBoundsException behind the fifth", """
            hire 2 0 600 => 0
            hire 2 0 600 => 1
            hire 2 0 600 => 2
            hire 2 0 600 => 3
            hire 2 0 600 => 4
            loadOf 4 => 0
            loadOf 5 => IndexOutOfBounds
            """);
    }

    private static void loadOfChanges() {
        Script.run("21: the visits of those that were dropped are none", ONE_SERVICE + """
            addService 1 7 => 1
            book 0 0 => 0
            book 1 0 => 1
            drop 0 => 0
            loadOf 0 => 7
            loadOf -1 => IndexOutOfBounds
            drop 1 => 0
            loadOf 0 => 0
            """);
        Script.run("21: a move takes the work from one to another", """
            hire 2 0 300 => 0
            hire 2 300 600 => 1
            addService 1 20 => 0
            book 0 0 => 0
            loadOf 0 => 20
            loadOf 1 => 0
            move 0 300 => 300
            loadOf 0 => 0
            loadOf 1 => 20
            """);
        Script.run("21: a request is a load when it is booked", ONE_SERVICE + """
            addService 1 7 => 1
            book 0 0 => 0
            request 1 0 => 1
            loadOf 0 => 20
            drop 0 => 1
            loadOf 0 => 7
            """);
    }

    private static void staffAtArguments() {
        Script.run("22: IndexOutOfBoundsException if there is no such member of staff", """
            staffAt 0 0 => IndexOutOfBounds
            hire 2 0 600 => 0
            staffAt 0 0 => -1
            staffAt 1 0 => IndexOutOfBounds
            staffAt -1 0 => IndexOutOfBounds
            staffAt MAX 0 => IndexOutOfBounds
            staffAt MIN 0 => IndexOutOfBounds
            """);
        Script.run("22: IndexOutOfBoundsException behind the fifth", """
            hire 2 0 600 => 0
            hire 2 0 600 => 1
            hire 2 0 600 => 2
            hire 2 0 600 => 3
            hire 2 0 600 => 4
            addService 1 20 => 0
            bookWith 0 4 0 => 0
            staffAt 4 0 => 0
            staffAt 5 0 => IndexOutOfBounds
            """);
        Script.run("22: minute, 0 to 599: too small", ONE_SERVICE + """
            staffAt 0 -1 => IndexOutOfBounds
            staffAt 0 MIN => IndexOutOfBounds
            staffAt 1 -1 => IndexOutOfBounds
            """);
        Script.run("22: minute, 0 to 599: the least and the greatest", ONE_SERVICE + """
            staffAt 0 0 => -1
            staffAt 0 599 => -1
            book 0 0 => 0
            book 0 580 => 1
            staffAt 0 0 => 0
            staffAt 0 599 => 1
            """);
        Script.run("22: minute, 0 to 599: too large", ONE_SERVICE + """
            staffAt 0 600 => IndexOutOfBounds
            staffAt 0 MAX => IndexOutOfBounds
            book 0 580 => 0
            staffAt 0 600 => IndexOutOfBounds
            """);
        Script.run("22: minute, 0 to 599: also outside the shift", """
            hire 2 100 200 => 0
            staffAt 0 0 => -1
            staffAt 0 99 => -1
            staffAt 0 200 => -1
            staffAt 0 599 => -1
            """);
    }

    private static void staffAt() {
        Script.run("22: the visit by which they are taken: from its first minute to its last", ONE_SERVICE + """
            book 0 100 => 0
            book 0 120 => 1
            staffAt 0 99 => -1
            staffAt 0 100 => 0
            staffAt 0 119 => 0
            staffAt 0 120 => 1
            staffAt 0 139 => 1
            staffAt 0 140 => -1
            """);
        Script.run("22: NONE if they are not taken: in a rest", """
            hire 15 0 600 => 0
            addUsual 2 => 0
            book 0 0 => 0
            staffAt 0 14 => 0
            staffAt 0 15 => -1
            staffAt 0 34 => -1
            staffAt 0 35 => 0
            """);
        Script.run("22: NONE if they are not taken: but somebody else is", """
            hire 2 0 600 => 0
            hire 2 0 600 => 1
            addService 1 20 => 0
            bookWith 0 1 0 => 0
            staffAt 0 0 => -1
            staffAt 1 0 => 0
            """);
        Script.run("22: NONE if they are not taken: the visit was dropped or moved", ONE_SERVICE + """
            book 0 0 => 0
            book 0 100 => 1
            drop 0 => 0
            staffAt 0 0 => -1
            staffAt 0 19 => -1
            move 1 200 => 200
            staffAt 0 100 => -1
            staffAt 0 119 => -1
            staffAt 0 200 => 1
            """);
        Script.run("22: the thirtieth visit", ONE_SERVICE + Script.counting("book 0 0", 0, 29) + """
            staffAt 0 579 => 28
            staffAt 0 580 => 29
            staffAt 0 599 => 29
            """);
    }

    private static void chairAtArguments() {
        Script.run("23: chair, 0 to 3: too small", """
            chairAt -1 0 => IndexOutOfBounds
            chairAt MIN 0 => IndexOutOfBounds
            """);
        Script.run("23: chair, 0 to 3: the least and the greatest", """
            hire 2 0 600 => 0
            hire 2 0 600 => 1
            hire 2 0 600 => 2
            hire 2 0 600 => 3
            addService 1 20 => 0
            chairAt 0 0 => -1
            chairAt 3 0 => -1
            book 0 0 => 0
            book 0 0 => 1
            book 0 0 => 2
            book 0 0 => 3
            chairAt 0 0 => 0
            chairAt 3 0 => 3
            """);
        Script.run("23: chair, 0 to 3: too large", """
            chairAt 4 0 => IndexOutOfBounds
            chairAt MAX 0 => IndexOutOfBounds
            hire 2 0 600 => 0
            hire 2 0 600 => 1
            hire 2 0 600 => 2
            hire 2 0 600 => 3
            hire 2 0 600 => 4
            chairAt 4 0 => IndexOutOfBounds        // however many members of staff
            """);
        Script.run("23: minute, 0 to 599: too small", """
            chairAt 0 -1 => IndexOutOfBounds
            chairAt 0 MIN => IndexOutOfBounds
            chairAt 4 -1 => IndexOutOfBounds
            """);
        Script.run("23: minute, 0 to 599: the least and the greatest", ONE_SERVICE + """
            chairAt 0 0 => -1
            chairAt 0 599 => -1
            book 0 0 => 0
            book 0 580 => 1
            chairAt 0 0 => 0
            chairAt 0 599 => 1
            """);
        Script.run("23: minute, 0 to 599: too large", ONE_SERVICE + """
            chairAt 0 600 => IndexOutOfBounds
            chairAt 3 600 => IndexOutOfBounds
            chairAt 0 MAX => IndexOutOfBounds
            book 0 580 => 0
            chairAt 0 600 => IndexOutOfBounds
            """);
    }

    private static void chairAt() {
        Script.run("23: the visit by which a chair is taken: from its start to its end", """
            hire 2 0 600 => 0
            addService 1 10 => 0
            addStep 0 -1 10 => 2
            book 0 100 => 0
            book 0 120 => 1
            chairAt 0 99 => -1
            chairAt 0 100 => 0
            chairAt 0 109 => 0
            chairAt 0 110 => 0                     // in its rest, too
            chairAt 0 119 => 0
            chairAt 0 120 => 1
            chairAt 0 139 => 1
            chairAt 0 140 => -1
            """);
        Script.run("23: NONE if it is not taken: but another one is", ONE_SERVICE + """
            book 0 0 => 0
            chairAt 0 0 => 0
            chairAt 1 0 => -1
            chairAt 2 0 => -1
            chairAt 3 0 => -1
            """);
        Script.run("23: NONE if it is not taken: the visit was dropped or moved", """
            hire 2 0 600 => 0
            addService 1 10 => 0
            addStep 0 -1 10 => 2
            book 0 0 => 0
            book 0 100 => 1
            drop 0 => 0
            chairAt 0 0 => -1
            chairAt 0 19 => -1
            move 1 200 => 200
            chairAt 0 100 => -1
            chairAt 0 119 => -1
            chairAt 0 219 => 1
            """);
        Script.run("23: the thirtieth visit", ONE_SERVICE + Script.counting("book 0 0", 0, 29) + """
            chairAt 0 579 => 28
            chairAt 0 580 => 29
            chairAt 0 599 => 29
            """);
    }
}
