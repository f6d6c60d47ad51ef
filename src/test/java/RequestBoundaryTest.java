/**
 * Promises 10 to 12: one run for each of their sentences that names a boundary. A title is the
 * promise's number and the sentence.
 */
public final class RequestBoundaryTest {
    private static final String ONE_SERVICE = """
        hire 2 0 600 => 0
        addService 1 20 => 0
        """;
    private static final String SIX_REQUESTS = ONE_SERVICE + "addService 2 20 => 1\n"
        + Script.counting("request 0 0", 1, 6);

    public static void main(String[] args) {
        requestArguments();
        requestAnswers();
        requestFull();
        requestIsNotServed();
        requests();
        requestAt();
        Script.end();
    }

    private static void requestArguments() {
        Script.run("10: IndexOutOfBoundsException if there is no such service", """
            request 0 0 => IndexOutOfBounds
            addService 1 20 => 0
            request 1 0 => IndexOutOfBounds
            request -1 0 => IndexOutOfBounds
            request MAX 0 => IndexOutOfBounds
            request MIN 0 => IndexOutOfBounds
            requests => 0
            request 0 0 => 1
            """);
        Script.run("10: the last service that there can be", Script.counting("addUsual 3", 0, 7) + """
            request 8 0 => IndexOutOfBounds
            request 7 0 => 1
            requestAt 0 => 7
            """);
        Script.run("10: latest, 0 to 599: too small", ONE_SERVICE + """
            request 0 -1 => IndexOutOfBounds
            request 0 MIN => IndexOutOfBounds
            requests => 0
            """);
        Script.run("10: latest, 0 to 599: the least", ONE_SERVICE + """
            book 0 1 => 0
            book 0 100 => 1
            request 0 0 => 1
            drop 1 => 0                            // the place is at 21
            requests => 1
            drop 0 => 1
            startOf 2 => 0
            """);
        Script.run("10: latest, 0 to 599: the greatest", """
            hire 2 599 600 => 0
            addService 1 1 => 0
            book 0 0 => 0
            request 0 599 => 1
            drop 0 => 1
            startOf 1 => 599
            """);
        Script.run("10: latest, 0 to 599: too large", ONE_SERVICE + """
            request 0 600 => IndexOutOfBounds
            request 0 MAX => IndexOutOfBounds
            requests => 0
            """);
    }

    private static void requestAnswers() {
        Script.run("10: returns how many requests there are then: 1 to 6", ONE_SERVICE + """
            request 0 0 => 1
            request 0 600 => IndexOutOfBounds      // a refused one is none
            request 0 0 => 2
            request 1 0 => IndexOutOfBounds
            request 0 0 => 3
            request 0 0 => 4
            request 0 0 => 5
            request 0 0 => 6
            """);
        Script.run("10: returns how many requests there are then: without those that are booked", ONE_SERVICE + """
            book 0 0 => 0
            request 0 0 => 1
            request 0 0 => 2
            drop 0 => 1
            request 0 0 => 2
            """);
        Script.run("10: puts a request at the end of the list", ONE_SERVICE + """
            addService 1 10 => 1
            addService 1 10 => 2
            request 1 0 => 1
            request 0 0 => 2
            requestAt 1 => 0
            request 2 0 => 3
            requestAt 0 => 1
            requestAt 1 => 0
            requestAt 2 => 2
            """);
        Script.run("10: puts a request at the end of the list: also behind one that left it", ONE_SERVICE + """
            addService 2 10 => 1
            addService 3 10 => 2
            book 0 0 => 0
            request 0 0 => 1
            request 1 0 => 2
            drop 0 => 1
            request 2 0 => 2
            requestAt 0 => 1
            requestAt 1 => 2
            """);
    }

    private static void requestFull() {
        Script.run("10: IllegalStateException if there are 6 requests", SIX_REQUESTS + """
            request 0 0 => IllegalState
            request 1 599 => IllegalState
            requests => 6
            requestAt 5 => 0
            requestAt 6 => IndexOutOfBounds
            addStep 1 2 1 => 2                     // it was not requested
            """);
        Script.run("10: IllegalStateException only while there are 6", SIX_REQUESTS + """
            request 1 0 => IllegalState
            book 0 100 => 0
            drop 0 => 1                            // one of them is booked
            request 1 0 => 6
            request 1 0 => IllegalState
            """);
        Script.run("10: of several exceptions the one that is named first", SIX_REQUESTS + """
            request 2 0 => IndexOutOfBounds
            request -1 0 => IndexOutOfBounds
            request 0 -1 => IndexOutOfBounds
            request 0 600 => IndexOutOfBounds
            """);
        Script.run("10: 30 visits are no bar to a request", ONE_SERVICE
            + Script.counting("book 0 0", 0, 29) + """
            request 0 0 => 1
            requests => 1
            """);
    }

    private static void requestIsNotServed() {
        Script.run("10: the list is not served by that", ONE_SERVICE + """
            request 0 599 => 1
            request 0 599 => 2
            visits => 0
            requests => 2
            staffAt 0 0 => -1
            """);
        Script.run("10: nor by a booking", ONE_SERVICE + """
            request 0 599 => 1
            book 0 0 => 0
            bookWith 0 0 0 => 1
            requests => 1
            visits => 2
            """);
        Script.run("10: a request needs no place", """
            addService 1 200 => 0
            addStep 0 1 200 => 2
            addStep 0 1 200 => 3
            addStep 0 1 200 => 4
            request 0 599 => 1
            requests => 1
            """);
    }

    private static void requests() {
        Script.run("11: how many requests there are: none in a new book", """
            requests => 0
            """);
        Script.run("11: how many requests there are: up to six", SIX_REQUESTS + """
            requests => 6
            request 0 0 => IllegalState
            requests => 6
            """);
        Script.run("11: how many requests there are: without those that are booked", ONE_SERVICE + """
            book 0 0 => 0
            request 0 0 => 1
            request 0 0 => 2
            requests => 2
            drop 0 => 1
            requests => 1
            drop 1 => 1
            requests => 0
            drop 2 => 0
            requests => 0
            """);
    }

    private static void requestAt() {
        Script.run("12: place: 0 for the first request", ONE_SERVICE + """
            addService 1 10 => 1
            request 1 0 => 1
            requestAt 0 => 1
            request 0 0 => 2
            requestAt 0 => 1
            requestAt 1 => 0
            """);
        Script.run("12: IndexOutOfBoundsException if there are not so many requests", ONE_SERVICE + """
            requestAt 0 => IndexOutOfBounds
            request 0 0 => 1
            requestAt 0 => 0
            requestAt 1 => IndexOutOfBounds
            requestAt 6 => IndexOutOfBounds
            requestAt MAX => IndexOutOfBounds
            """);
        Script.run("12: IndexOutOfBoundsException below the first", ONE_SERVICE + """
            request 0 0 => 1
            requestAt -1 => IndexOutOfBounds
            requestAt MIN => IndexOutOfBounds
            """);
        Script.run("12: IndexOutOfBoundsException behind the last of six", SIX_REQUESTS + """
            requestAt 5 => 0
            requestAt 6 => IndexOutOfBounds
            """);
        Script.run("12: IndexOutOfBoundsException where a request was that is booked", ONE_SERVICE + """
            addService 1 10 => 1
            book 0 0 => 0
            request 0 599 => 1
            request 1 0 => 2
            drop 0 => 1
            requestAt 0 => 1                       // moved up
            requestAt 1 => IndexOutOfBounds
            """);
    }
}
