/** Promises 8 to 12: visits that are moved and dropped, and the waiting list. */
public final class ChangesTest {
    public static void main(String[] args) {
        move();
        moveTakesTheVisitOut();
        moveThrows();
        moveServesTheList();
        drop();
        dropServesTheList();
        listIsLookedAtOnce();
        fullBookKeepsRequests();
        request();
        Script.end();
    }

    private static void move() {
        Script.run("promise 8: move puts the visit at the place of its service", """
            hire 15 0 600 => 0
            hire 15 0 600 => 1
            addService 1 20 => 0
            book 0 0 => 0
            book 0 0 => 1
            book 0 0 => 2
            startOf 2 => 20
            move 2 300 => 300
            startOf 2 => 300
            staffOf 2 => 0
            chairOf 2 => 0
            chairAt 0 20 => -1
            staffAt 0 20 => -1
            staffAt 0 300 => 2
            chairAt 0 319 => 2
            serviceOf 2 => 0
            visits => 3
            bookWith 0 0 310 => 3
            startOf 3 => 320
            move 3 310 => 310                      // the other member is free at 310
            staffOf 3 => 1
            chairOf 3 => 1
            loadOf 0 => 40
            loadOf 1 => 40
            """);
    }

    private static void moveTakesTheVisitOut() {
        Script.run("promise 8: the visit itself is not in its own way", """
            hire 15 0 600 => 0
            addService 1 20 => 0
            book 0 100 => 0
            move 0 90 => 90
            move 0 95 => 95
            move 0 95 => 95
            move 0 580 => 580
            staffAt 0 95 => -1
            """);
        Script.run("promise 8: nor is its own work in the load", """
            hire 15 0 600 => 0
            hire 15 0 600 => 1
            addService 1 50 => 0
            addService 1 20 => 1
            bookWith 0 0 0 => 0
            bookWith 1 1 0 => 1
            move 0 300 => 300                      // without it the loads are 0 and 20
            staffOf 0 => 0
            loadOf 0 => 50
            bookWith 1 0 100 => 2
            move 0 300 => 300                      // 20 and 20
            staffOf 0 => 0
            bookWith 1 0 200 => 3
            move 0 300 => 300                      // 40 and 20
            staffOf 0 => 1
            loadOf 0 => 40
            loadOf 1 => 70
            """);
    }

    private static void moveThrows() {
        Script.run("promise 8: move throws, and changes nothing then", """
            move 0 0 => IndexOutOfBounds
            hire 15 0 100 => 0
            addService 1 20 => 0
            addUsual 2 => 1
            book 0 50 => 0
            book 1 0 => 1
            request 0 10 => 1
            move 0 81 => NoSuchElement
            move 0 599 => NoSuchElement
            move 1 56 => NoSuchElement
            requests => 1                          // the list is not served by that
            startOf 0 => 50
            staffAt 0 0 => 1
            move 2 0 => IndexOutOfBounds
            move -1 0 => IndexOutOfBounds
            move MAX 0 => IndexOutOfBounds
            move MIN 0 => IndexOutOfBounds
            move 0 -1 => IndexOutOfBounds
            move 0 600 => IndexOutOfBounds
            move 0 MAX => IndexOutOfBounds
            drop 0 => 0
            move 0 0 => IndexOutOfBounds
            move 0 600 => IndexOutOfBounds
            book 0 0 => 2
            startOf 2 => 15
            """);
    }

    private static void moveServesTheList() {
        Script.run("promise 8: then the list is served", """
            hire 15 0 100 => 0
            addService 1 40 => 0
            addService 1 20 => 1
            book 0 0 => 0
            request 1 599 => 1
            request 1 10 => 2
            request 0 15 => 3
            request 1 30 => 4
            move 0 60 => 60
            startOf 1 => 0                         // the first request
            serviceOf 1 => 1
            startOf 2 => 20                        // the fourth: 20 is too late for the others
            requests => 2
            requestAt 0 => 1
            requestAt 1 => 0
            visits => 3
            """);
    }

    private static void drop() {
        Script.run("promise 9: drop", """
            drop 0 => IndexOutOfBounds
            hire 15 0 600 => 0
            addUsual 1 => 0
            addService 3 10 => 1
            book 0 0 => 0
            bookWith 1 0 0 => 1
            startOf 1 => 40
            drop 0 => 0
            startOf 0 => -1
            staffAt 0 39 => -1
            staffAt 0 40 => 1
            staffAt 0 80 => -1
            chairAt 0 60 => -1
            chairAt 1 45 => 1
            loadOf 0 => 10
            drop 0 => IndexOutOfBounds
            drop 2 => IndexOutOfBounds
            drop -1 => IndexOutOfBounds
            drop MAX => IndexOutOfBounds
            drop MIN => IndexOutOfBounds
            earliest 1 40 => 50
            drop 1 => 0
            drop 1 => IndexOutOfBounds
            earliest 1 40 => 40
            visits => 2
            """);
    }

    private static void dropServesTheList() {
        Script.run("promise 9: the list is served from minute 0 on, up to the latest start", """
            hire 15 0 100 => 0
            addService 1 50 => 0
            book 0 0 => 0
            book 0 0 => 1
            request 0 49 => 1
            request 0 49 => 2
            drop 1 => 0                            // the place is at 50
            startOf 1 => -1
            requests => 2
            book 0 50 => 2
            request 0 50 => 3
            request 0 599 => 4
            drop 2 => 1
            startOf 3 => 50
            requests => 3
            drop 0 => 1
            startOf 4 => 0
            requests => 2
            requestAt 0 => 0
            drop 4 => 1
            requests => 1
            drop 5 => 1
            requests => 0
            startOf 6 => 0
            """);
        Script.run("promise 9: a request takes staff and chair as a booking does", """
            hire 15 0 600 => 0
            hire 15 0 600 => 1
            addService 1 30 => 0
            addService 1 20 => 1
            book 0 0 => 0
            book 1 0 => 1
            request 1 0 => 1
            bookWith 0 1 100 => 2
            drop 0 => 1
            startOf 3 => 0
            staffOf 3 => 0
            chairOf 3 => 0
            serviceOf 3 => 1
            loadOf 0 => 20
            loadOf 1 => 50
            """);
    }

    private static void listIsLookedAtOnce() {
        Script.run("promise 9: each request is looked at, in order", """
            hire 15 0 60 => 0
            addService 1 60 => 0
            addService 1 20 => 1
            addService 1 30 => 2
            addService 1 40 => 3
            book 0 0 => 0
            request 0 599 => 1
            request 3 599 => 2
            request 2 599 => 3
            request 1 0 => 4
            request 1 20 => 5
            request 1 40 => 6
            requestAt 1 => 3
            drop 0 => 1                            // the first one takes the whole day
            serviceOf 1 => 0
            requests => 5
            requestAt 0 => 3
            drop 1 => 2                            // 40, no 30, no 20 at 0, no 20 at 20, 20
            serviceOf 2 => 3
            startOf 2 => 0
            serviceOf 3 => 1
            startOf 3 => 40
            requests => 3
            requestAt 0 => 2
            requestAt 1 => 1
            requestAt 2 => 1
            requestAt 3 => IndexOutOfBounds
            drop 3 => 0
            drop 2 => 1                            // 30 at 0; the others' latest are 0 and 20
            startOf 4 => 0
            requests => 2
            """);
    }

    private static void fullBookKeepsRequests() {
        Script.run("promises 8 and 9: no request is booked when thirty visits were booked",
            "hire 3 0 600 => 0\n"
            + "addService 0 10 => 0\n"
            + Script.counting("book 0 0", 0, 28)
            + """
            request 0 599 => 1
            request 0 599 => 2
            request 0 599 => 3
            drop 5 => 1                            // that is the thirtieth
            startOf 29 => 50
            visits => 30
            requests => 2
            drop 6 => 0
            move 7 0 => 60
            requests => 2
            visits => 30
            request 0 0 => 3
            """);
    }

    private static void request() {
        Script.run("promises 10 to 12: request, requests, requestAt", """
            request 0 0 => IndexOutOfBounds
            hire 1 0 600 => 0
            addService 0 10 => 0
            addService 1 10 => 1
            requests => 0
            requestAt 0 => IndexOutOfBounds
            request 2 0 => IndexOutOfBounds
            request -1 0 => IndexOutOfBounds
            request MAX 0 => IndexOutOfBounds
            request MIN 0 => IndexOutOfBounds
            request 0 -1 => IndexOutOfBounds
            request 0 600 => IndexOutOfBounds
            request 0 MAX => IndexOutOfBounds
            request 0 MIN => IndexOutOfBounds
            requests => 0
            request 0 599 => 1
            visits => 0                            // the list is not served by that
            request 1 0 => 2                       // nor need there be a place
            requests => 2
            requestAt 0 => 0
            requestAt 1 => 1
            requestAt 2 => IndexOutOfBounds
            requestAt -1 => IndexOutOfBounds
            requestAt MAX => IndexOutOfBounds
            requestAt MIN => IndexOutOfBounds
            book 0 0 => 0
            requests => 2                          // nor by a booking
            request 1 0 => 3
            request 0 5 => 4
            request 0 5 => 5
            request 0 5 => 6
            request 0 5 => IllegalState
            request 2 5 => IndexOutOfBounds
            request 0 600 => IndexOutOfBounds
            requests => 6
            requestAt 5 => 0
            requestAt 6 => IndexOutOfBounds
            drop 0 => 1                            // at 0; for the others 10 is too late
            requests => 5
            requestAt 0 => 1
            requestAt 1 => 1
            requestAt 2 => 0
            request 0 5 => 6
            """);
    }
}
