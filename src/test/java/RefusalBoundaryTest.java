/**
 * The sentence "A call that throws an exception changes nothing", one run for each call and
 * each exception that it throws, in books in which there is something to change.
 */
public final class RefusalBoundaryTest {
    /**
     * Service 1 has no place, services 1, 2 and 4 were not booked, 4 has five steps; visit 2
     * was dropped; of the requests the first has a place, which no call has served yet.
     */
    private static final String BUSY = """
        hire 3 0 100 => 0
        hire 7 0 100 => 1
        addService 1 60 => 0
        addService 3 10 => 1
        addService 1 20 => 2
        addService 2 30 => 3
        addStep 3 -1 10 => 2
        addService 0 10 => 4
        addStep 4 -1 10 => 2
        addStep 4 0 10 => 3
        addStep 4 -1 10 => 4
        addStep 4 0 10 => 5
        book 0 0 => 0
        book 3 0 => 1
        book 0 0 => 2
        drop 2 => 0
        request 3 599 => 1
        request 0 0 => 2
        """;
    /** All that can be had: 5 members of staff, 8 services, 30 visits, 6 requests. */
    private static final String FULL = """
        hire 15 0 600 => 0
        hire 15 0 600 => 1
        hire 1 0 600 => 2
        hire 2 0 600 => 3
        hire 4 0 600 => 4
        """ + Script.counting("addUsual 3", 0, 7)
        + Script.counting("book 0 0", 0, 29) + """
        drop 5 => 0
        request 1 599 => 1
        request 2 0 => 2
        request 3 100 => 3
        request 4 200 => 4
        request 5 300 => 5
        request 0 400 => 6
        """;

    public static void main(String[] args) {
        busy();
        full();
        questions();
        Script.end();
    }

    private static void refused(String book, String name, String exception, String... arguments) {
        StringBuilder text = new StringBuilder(book);
        for (String words : arguments) {
            text.append(name).append(' ').append(words).append(" => ").append(exception).append('\n');
        }
        Script.run("a call that throws an exception changes nothing: " + name + ", " + exception,
            text.toString());
    }

    private static void busy() {
        refused(BUSY, "hire", "IllegalArgument", "0 0 600", "16 0 600", "1 -1 600", "1 9 9", "1 0 601");
        refused(BUSY, "addService", "IllegalArgument", "-1 1", "4 1", "0 0", "0 201");
        refused(BUSY, "addStep", "IndexOutOfBounds", "5 0 1", "-1 0 1");
        refused(BUSY, "addStep", "IllegalArgument", "2 4 1", "2 -2 1", "2 0 0", "2 0 201");
        refused(BUSY, "addStep", "IllegalState", "0 0 1", "3 -1 1", "4 0 1");
        refused(BUSY, "addUsual", "IllegalArgument", "-1", "4");
        refused(BUSY, "book", "IndexOutOfBounds", "5 0", "-1 0", "2 -1", "2 600");
        refused(BUSY, "book", "NoSuchElement", "1 0", "2 81", "2 599");
        refused(BUSY, "bookWith", "IndexOutOfBounds", "5 0 0", "-1 0 0", "2 2 0", "2 -1 0", "2 0 -1", "2 0 600");
        refused(BUSY, "bookWith", "NoSuchElement", "1 0 0", "1 1 0", "2 0 81", "3 0 0");
        refused(BUSY, "move", "IndexOutOfBounds", "3 0", "-1 0", "2 0", "0 -1", "0 600");
        refused(BUSY, "move", "NoSuchElement", "0 41", "0 599", "1 61");
        refused(BUSY, "drop", "IndexOutOfBounds", "3", "-1", "2");
        refused(BUSY, "request", "IndexOutOfBounds", "5 0", "-1 0", "2 -1", "2 600");
    }

    private static void full() {
        refused(FULL, "hire", "IllegalState", "15 0 600", "1 0 1");
        refused(FULL, "addService", "IllegalState", "0 1", "3 200");
        refused(FULL, "addUsual", "IllegalState", "0", "1", "2", "3");
        refused(FULL, "book", "IllegalState", "0 0", "6 0", "7 599");
        refused(FULL, "bookWith", "IllegalState", "0 0 0", "6 1 0", "7 4 599");
        refused(FULL, "request", "IllegalState", "0 0", "6 599", "7 0");
    }

    private static void questions() {
        refused(BUSY, "requestAt", "IndexOutOfBounds", "2", "-1");
        refused(BUSY, "lengthOf", "IndexOutOfBounds", "5", "-1");
        refused(BUSY, "workOf", "IndexOutOfBounds", "5", "-1");
        refused(BUSY, "skillsOf", "IndexOutOfBounds", "5", "-1");
        refused(BUSY, "startOf", "IndexOutOfBounds", "3", "-1");
        refused(BUSY, "staffOf", "IndexOutOfBounds", "3", "-1");
        refused(BUSY, "chairOf", "IndexOutOfBounds", "3", "-1");
        refused(BUSY, "serviceOf", "IndexOutOfBounds", "3", "-1");
        refused(BUSY, "loadOf", "IndexOutOfBounds", "2", "-1");
        refused(BUSY, "staffAt", "IndexOutOfBounds", "2 0", "-1 0", "0 -1", "0 600");
        refused(BUSY, "chairAt", "IndexOutOfBounds", "4 0", "-1 0", "0 -1", "0 600");
        refused(BUSY, "earliest", "IndexOutOfBounds", "5 0", "-1 0", "2 -1", "2 600");
        refused(BUSY, "earliestByScan", "IndexOutOfBounds", "5 0", "-1 0", "2 -1", "2 600");
        refused(BUSY, "staffFor", "IndexOutOfBounds", "5 0", "-1 0", "2 -1", "2 600");
        refused(BUSY, "inRest", "IndexOutOfBounds", "3 2", "-1 2", "2 2", "1 5", "1 -1");
        refused(BUSY, "fill", "IllegalArgument", "-1", "601");
    }
}
