/**
 * Promises 6 to 9: one run for each of their sentences that names a boundary. A title is the
 * promise's number and the sentence.
 */
public final class VisitBoundaryTest {
    private static final String ONE_SERVICE = """
        hire 2 0 600 => 0
        addService 1 20 => 0
        """;
    /** Service 1 never has a place. */
    private static final String THIRTY_VISITS = ONE_SERVICE
        + "addService 2 20 => 1\n"
        + Script.counting("book 0 0", 0, 29);

    public static void main(String[] args) {
        bookArguments();
        bookAnswers();
        bookFull();
        bookWithoutPlace();
        bookWithArguments();
        bookWithAnswers();
        bookWithFull();
        bookWithoutStart();
        moveArguments();
        movePlaces();
        moveStaffAndChair();
        moveServes();
        moveWithoutPlace();
        dropArguments();
        dropAnswers();
        dropGivesFree();
        Script.end();
    }

    private static void bookArguments() {
        Script.run("6: IndexOutOfBoundsException if there is no such service", """
            hire 2 0 600 => 0
            book 0 0 => IndexOutOfBounds
            addService 1 20 => 0
            book 1 0 => IndexOutOfBounds
            book -1 0 => IndexOutOfBounds
            book MAX 0 => IndexOutOfBounds
            book MIN 0 => IndexOutOfBounds
            visits => 0
            book 0 0 => 0
            """);
        Script.run("6: the last service that there can be", "hire 15 0 600 => 0\n"
            + Script.counting("addUsual 3", 0, 7) + """
            book 8 0 => IndexOutOfBounds
            book 7 0 => 0
            serviceOf 0 => 7
            """);
        Script.run("6: from, 0 to 599: too small", ONE_SERVICE + """
            book 0 -1 => IndexOutOfBounds
            book 0 -20 => IndexOutOfBounds
            book 0 MIN => IndexOutOfBounds
            visits => 0
            """);
        Script.run("6: from, 0 to 599: the least and the greatest", """
            hire 2 0 600 => 0
            addService 1 1 => 0
            book 0 0 => 0
            book 0 599 => 1
            startOf 0 => 0
            startOf 1 => 599
            """);
        Script.run("6: from, 0 to 599: too large", ONE_SERVICE + """
            book 0 600 => IndexOutOfBounds
            book 0 MAX => IndexOutOfBounds
            visits => 0
            """);
    }

    private static void bookAnswers() {
        Script.run("6: returns the number of the visit", ONE_SERVICE + """
            book 0 0 => 0
            book 0 300 => 1
            book 0 600 => IndexOutOfBounds         // a refused one has no number
            book 0 599 => NoSuchElement
            book 0 200 => 2
            drop 2 => 0
            book 0 100 => 3
            startOf 3 => 100
            """);
        Script.run("6: books a visit at the place: that minute, or the next that is free", ONE_SERVICE + """
            book 0 100 => 0
            startOf 0 => 100
            book 0 101 => 1
            startOf 1 => 120
            book 0 80 => 2
            startOf 2 => 80
            book 0 61 => 3
            startOf 3 => 140
            """);
        Script.run("6: books a visit at the place: the last one of the day", ONE_SERVICE + """
            book 0 580 => 0
            startOf 0 => 580
            book 0 560 => 1
            startOf 1 => 560
            """);
    }

    private static void bookFull() {
        Script.run("6: the thirtieth visit is booked", ONE_SERVICE
            + Script.counting("book 0 0", 0, 28) + """
            book 0 0 => 29
            startOf 29 => 580
            """);
        Script.run("6: IllegalStateException if 30 visits were booked", """
            hire 2 0 600 => 0
            addService 1 10 => 0
            """ + Script.counting("book 0 0", 0, 29) + """
            earliest 0 0 => 300
            book 0 0 => IllegalState
            visits => 30
            chairAt 0 300 => -1
            """);
        Script.run("6: IllegalStateException if 30 visits were booked: and all of them dropped",
            ONE_SERVICE
            + Script.counting("book 0 0", 0, 29)
            + dropping(30)
            + """
            earliest 0 0 => 0
            book 0 0 => IllegalState
            """);
        Script.run("6: of several exceptions the one that is named first", THIRTY_VISITS + """
            book 2 0 => IndexOutOfBounds
            book -1 0 => IndexOutOfBounds
            book 0 600 => IndexOutOfBounds
            book 0 -1 => IndexOutOfBounds
            book 1 600 => IndexOutOfBounds
            book 1 0 => IllegalState
            book 0 0 => IllegalState
            book 0 581 => IllegalState
            """);
    }

    /** Drops all visits from 0 on. */
    private static String dropping(int visits) {
        StringBuilder lines = new StringBuilder();
        for (int i = 0; i < visits; i++) {
            lines.append("drop ").append(i).append(" => 0\n");
        }
        return lines.toString();
    }

    private static void bookWithoutPlace() {
        Script.run("6: NoSuchElementException: nobody is there", """
            addService 1 20 => 0
            book 0 0 => NoSuchElement
            """);
        Script.run("6: NoSuchElementException: nobody has the skills", """
            hire 13 0 600 => 0
            addService 1 20 => 0
            book 0 0 => NoSuchElement
            """);
        Script.run("6: NoSuchElementException: no shift is so long", """
            hire 2 100 119 => 0
            hire 2 200 219 => 1
            addService 1 20 => 0
            book 0 0 => NoSuchElement
            """);
        Script.run("6: NoSuchElementException: it would end behind minute 600", ONE_SERVICE + """
            book 0 581 => NoSuchElement
            book 0 599 => NoSuchElement
            book 0 580 => 0
            """);
        Script.run("6: NoSuchElementException: the service is longer than the day", """
            hire 2 0 600 => 0
            addService 1 200 => 0
            addStep 0 -1 200 => 2
            addStep 0 -1 200 => 3
            addStep 0 -1 1 => 4
            book 0 0 => NoSuchElement
            """);
        Script.run("6: NoSuchElementException: the members of staff are taken", """
            hire 2 0 39 => 0
            addService 1 20 => 0
            book 0 0 => 0
            book 0 0 => NoSuchElement
            """);
        Script.run("6: NoSuchElementException: the chairs are taken", """
            hire 2 0 20 => 0
            hire 2 0 20 => 1
            hire 2 0 20 => 2
            hire 2 0 20 => 3
            hire 2 0 20 => 4
            addService 1 20 => 0
            book 0 0 => 0
            book 0 0 => 1
            book 0 0 => 2
            book 0 0 => 3
            book 0 0 => NoSuchElement
            visits => 4
            loadOf 4 => 0
            """);
    }

    private static void bookWithArguments() {
        Script.run("7: IndexOutOfBoundsException if there is no such service", """
            hire 2 0 600 => 0
            bookWith 0 0 0 => IndexOutOfBounds
            addService 1 20 => 0
            bookWith 1 0 0 => IndexOutOfBounds
            bookWith -1 0 0 => IndexOutOfBounds
            bookWith MAX 0 0 => IndexOutOfBounds
            bookWith MIN 0 0 => IndexOutOfBounds
            visits => 0
            bookWith 0 0 0 => 0
            """);
        Script.run("7: IndexOutOfBoundsException if there is no such member of staff", """
            addService 1 20 => 0
            bookWith 0 0 0 => IndexOutOfBounds
            hire 2 0 600 => 0
            bookWith 0 1 0 => IndexOutOfBounds
            bookWith 0 -1 0 => IndexOutOfBounds
            bookWith 0 32 0 => IndexOutOfBounds    // a shift by 32 is none
            bookWith 0 MAX 0 => IndexOutOfBounds
            bookWith 0 MIN 0 => IndexOutOfBounds
            visits => 0
            bookWith 0 0 0 => 0
            """);
        Script.run("7: the last member of staff that there can be", """
            hire 2 0 600 => 0
            hire 2 0 600 => 1
            hire 2 0 600 => 2
            hire 2 0 600 => 3
            hire 2 0 600 => 4
            addService 1 20 => 0
            bookWith 0 5 0 => IndexOutOfBounds
            bookWith 0 4 0 => 0
            staffOf 0 => 4
            """);
        Script.run("7: from, 0 to 599: too small", ONE_SERVICE + """
            bookWith 0 0 -1 => IndexOutOfBounds
            bookWith 0 0 -20 => IndexOutOfBounds
            bookWith 0 0 MIN => IndexOutOfBounds
            visits => 0
            """);
        Script.run("7: from, 0 to 599: the least and the greatest", """
            hire 2 0 600 => 0
            addService 1 1 => 0
            bookWith 0 0 0 => 0
            bookWith 0 0 599 => 1
            startOf 0 => 0
            startOf 1 => 599
            """);
        Script.run("7: from, 0 to 599: too large", ONE_SERVICE + """
            bookWith 0 0 600 => IndexOutOfBounds
            bookWith 0 0 MAX => IndexOutOfBounds
            visits => 0
            """);
    }

    private static void bookWithAnswers() {
        Script.run("7: returns the number of the visit", ONE_SERVICE + """
            bookWith 0 0 0 => 0
            book 0 0 => 1
            bookWith 0 1 0 => IndexOutOfBounds
            bookWith 0 0 599 => NoSuchElement
            drop 1 => 0
            bookWith 0 0 0 => 2
            """);
        Script.run("7: at the least start, from a minute on, at which they can take it", """
            hire 2 0 600 => 0
            hire 2 50 600 => 1
            addService 1 20 => 0
            bookWith 0 1 0 => 0                    // member 0 is free at 0
            startOf 0 => 50
            staffOf 0 => 1
            bookWith 0 1 30 => 1
            startOf 1 => 70
            staffOf 1 => 1
            bookWith 0 1 90 => 2
            startOf 2 => 90
            bookWith 0 1 110 => 3                  // whose load is greater
            startOf 3 => 110
            staffOf 3 => 1
            """);
        Script.run("7: at which some chair can take it", """
            hire 2 0 600 => 0
            hire 2 0 600 => 1
            hire 2 0 600 => 2
            hire 2 0 600 => 3
            hire 2 0 600 => 4
            addService 1 20 => 0
            addService 1 30 => 1
            bookWith 1 0 0 => 0
            bookWith 1 1 0 => 1
            bookWith 0 2 0 => 2
            bookWith 1 3 0 => 3
            bookWith 0 4 0 => 4
            startOf 4 => 20
            chairOf 4 => 2
            """);
        Script.run("7: on the chair with the lowest number", """
            hire 2 0 600 => 0
            hire 2 0 600 => 1
            hire 2 0 600 => 2
            addService 1 20 => 0
            bookWith 0 2 0 => 0
            bookWith 0 1 0 => 1
            bookWith 0 0 0 => 2
            chairOf 0 => 0
            chairOf 1 => 1
            chairOf 2 => 2
            drop 0 => 0
            bookWith 0 2 10 => 3
            chairOf 3 => 0
            """);
    }

    private static void bookWithFull() {
        Script.run("7: the thirtieth visit is booked", ONE_SERVICE
            + Script.counting("bookWith 0 0 0", 0, 28) + """
            bookWith 0 0 0 => 29
            startOf 29 => 580
            """);
        Script.run("7: IllegalStateException if 30 visits were booked", """
            hire 2 0 600 => 0
            addService 1 10 => 0
            """ + Script.counting("bookWith 0 0 0", 0, 29) + """
            bookWith 0 0 0 => IllegalState
            bookWith 0 0 300 => IllegalState
            drop 0 => 0
            bookWith 0 0 0 => IllegalState
            visits => 30
            """);
        Script.run("7: of several exceptions the one that is named first", THIRTY_VISITS + """
            bookWith 2 0 0 => IndexOutOfBounds
            bookWith -1 0 0 => IndexOutOfBounds
            bookWith 0 1 0 => IndexOutOfBounds
            bookWith 0 -1 0 => IndexOutOfBounds
            bookWith 0 0 600 => IndexOutOfBounds
            bookWith 0 0 -1 => IndexOutOfBounds
            bookWith 1 0 0 => IllegalState
            bookWith 0 0 0 => IllegalState
            """);
    }

    private static void bookWithoutStart() {
        Script.run("7: NoSuchElementException: they lack a skill that somebody else has", """
            hire 1 0 600 => 0
            hire 3 0 600 => 1
            addUsual 0 => 0
            bookWith 0 0 0 => NoSuchElement
            visits => 0
            bookWith 0 1 0 => 0
            """);
        Script.run("7: NoSuchElementException: their shift is over", """
            hire 2 0 100 => 0
            hire 2 0 600 => 1
            addService 1 20 => 0
            bookWith 0 0 81 => NoSuchElement
            bookWith 0 0 100 => NoSuchElement
            bookWith 0 0 80 => 0
            """);
        Script.run("7: NoSuchElementException: they are taken", """
            hire 2 0 39 => 0
            hire 2 0 600 => 1
            addService 1 20 => 0
            bookWith 0 0 0 => 0
            bookWith 0 0 0 => NoSuchElement
            loadOf 1 => 0
            """);
        Script.run("7: NoSuchElementException: it would end behind minute 600", ONE_SERVICE + """
            bookWith 0 0 581 => NoSuchElement
            bookWith 0 0 580 => 0
            """);
        Script.run("7: NoSuchElementException: the chairs are taken", """
            hire 2 0 600 => 0
            hire 2 0 600 => 1
            hire 2 0 600 => 2
            hire 2 0 600 => 3
            hire 2 0 20 => 4
            addService 1 20 => 0
            bookWith 0 0 0 => 0
            bookWith 0 1 0 => 1
            bookWith 0 2 0 => 2
            bookWith 0 3 0 => 3
            bookWith 0 4 0 => NoSuchElement
            drop 2 => 0
            bookWith 0 4 0 => 4
            chairOf 4 => 2
            """);
    }

    private static void moveArguments() {
        Script.run("8: IndexOutOfBoundsException if there is no such visit", ONE_SERVICE + """
            move 0 0 => IndexOutOfBounds
            book 0 100 => 0
            move 1 0 => IndexOutOfBounds
            move -1 0 => IndexOutOfBounds
            move MAX 0 => IndexOutOfBounds
            move MIN 0 => IndexOutOfBounds
            move 0 0 => 0
            """);
        Script.run("8: the last visit that there can be", THIRTY_VISITS + """
            drop 0 => 0
            move 30 0 => IndexOutOfBounds
            move 29 0 => 0
            startOf 29 => 0
            staffAt 0 599 => -1
            """);
        Script.run("8: IndexOutOfBoundsException if the visit was dropped", ONE_SERVICE + """
            book 0 100 => 0
            drop 0 => 0
            move 0 0 => IndexOutOfBounds
            move 0 100 => IndexOutOfBounds
            startOf 0 => -1
            chairAt 0 100 => -1
            """);
        Script.run("8: from, 0 to 599: too small", ONE_SERVICE + """
            book 0 100 => 0
            move 0 -1 => IndexOutOfBounds
            move 0 MIN => IndexOutOfBounds
            startOf 0 => 100
            """);
        Script.run("8: from, 0 to 599: the least and the greatest", """
            hire 2 0 600 => 0
            addService 1 1 => 0
            book 0 100 => 0
            move 0 0 => 0
            startOf 0 => 0
            move 0 599 => 599
            startOf 0 => 599
            """);
        Script.run("8: from, 0 to 599: too large", ONE_SERVICE + """
            book 0 100 => 0
            move 0 600 => IndexOutOfBounds
            move 0 MAX => IndexOutOfBounds
            startOf 0 => 100
            """);
        Script.run("8: of several exceptions the one that is named first", ONE_SERVICE + """
            book 0 100 => 0
            book 0 200 => 1
            drop 1 => 0
            move 1 599 => IndexOutOfBounds         // where there is no place, too
            move 2 599 => IndexOutOfBounds
            move 0 600 => IndexOutOfBounds
            """);
    }

    private static void movePlaces() {
        Script.run("8: it is taken out: its own minutes are free for it", ONE_SERVICE + """
            book 0 100 => 0
            move 0 100 => 100
            move 0 101 => 101
            move 0 82 => 82
            staffAt 0 81 => -1
            staffAt 0 82 => 0
            staffAt 0 101 => 0
            staffAt 0 102 => -1
            chairAt 0 102 => -1
            """);
        Script.run("8: it is taken out: what it took is free for others", ONE_SERVICE + """
            book 0 100 => 0
            move 0 300 => 300
            staffAt 0 100 => -1
            chairAt 0 119 => -1
            book 0 100 => 1
            startOf 1 => 100
            """);
        Script.run("8: and put at the place of its service from a minute on", ONE_SERVICE + """
            book 0 100 => 0
            book 0 300 => 1
            move 0 281 => 320                      // no room ahead of 300
            staffAt 0 320 => 0
            chairAt 0 339 => 0
            move 0 280 => 280
            move 0 0 => 0
            """);
        Script.run("8: returns its start then", ONE_SERVICE + """
            book 0 100 => 0
            book 0 0 => 1
            move 0 0 => 20                         // not the minute that was asked for
            startOf 0 => 20
            move 0 580 => 580
            startOf 0 => 580
            """);
        Script.run("8: a move is no booking: the visit keeps its number, also when 30 were booked",
            THIRTY_VISITS + """
            drop 0 => 0
            move 3 0 => 0
            startOf 3 => 0
            serviceOf 3 => 0
            visits => 30
            """);
    }

    private static void moveStaffAndChair() {
        Script.run("8: with the member of staff with the least load: its own work is taken out", """
            hire 2 0 600 => 0
            hire 2 0 600 => 1
            addService 1 20 => 0
            addService 1 19 => 1
            bookWith 0 0 100 => 0
            bookWith 1 1 200 => 1
            move 0 100 => 100                      // loads 0 and 19
            staffOf 0 => 0
            move 1 200 => 200                      // loads 20 and 0
            staffOf 1 => 1
            """);
        Script.run("8: with the member of staff with the least load: it may change", """
            hire 2 0 600 => 0
            hire 2 0 600 => 1
            addService 1 20 => 0
            bookWith 0 0 0 => 0
            bookWith 0 0 100 => 1
            move 1 100 => 100                      // loads 20 and 0
            staffOf 1 => 1
            loadOf 0 => 20
            loadOf 1 => 20
            staffAt 0 100 => -1
            staffAt 1 100 => 1
            """);
        Script.run("8: and the chair with the lowest number: it may change", """
            hire 2 0 600 => 0
            hire 2 0 600 => 1
            addService 1 20 => 0
            book 0 0 => 0
            book 0 0 => 1
            chairOf 1 => 1
            move 1 20 => 20
            chairOf 1 => 0
            chairAt 1 0 => -1
            chairAt 0 20 => 1
            """);
    }

    private static void moveServes() {
        Script.run("8: then the list is served: behind the move, not ahead of it", """
            hire 2 0 40 => 0
            addService 1 20 => 0
            addService 1 40 => 1
            book 0 0 => 0
            request 1 599 => 1
            request 0 0 => 2
            move 0 20 => 20                        // ahead of it the whole shift was free
            startOf 0 => 20
            requests => 1
            requestAt 0 => 1
            startOf 1 => 0
            serviceOf 1 => 0
            """);
        Script.run("8: then the list is served: a request may take what the visit left", ONE_SERVICE + """
            book 0 0 => 0
            request 0 0 => 1
            move 0 1 => 1                          // that leaves no room at 0
            requests => 1
            move 0 20 => 20
            requests => 0
            startOf 1 => 0
            """);
        Script.run("8: then the list is served: up to the thirtieth visit", ONE_SERVICE
            + Script.counting("book 0 0", 0, 28) + """
            request 0 0 => 1
            request 0 20 => 2
            move 0 580 => 580
            requests => 1
            startOf 29 => 0
            move 1 20 => 20                        // the day is full without it
            drop 0 => 0
            drop 1 => 0
            requests => 1
            """);
        Script.run("8: then the list is served: also when the visit stays where it was", ONE_SERVICE + """
            book 0 100 => 0
            request 0 0 => 1
            move 0 100 => 100
            requests => 0
            startOf 1 => 0
            """);
    }

    private static void moveWithoutPlace() {
        Script.run("8: NoSuchElementException if there is no such place without the visit", ONE_SERVICE + """
            book 0 100 => 0
            move 0 581 => NoSuchElement
            move 0 599 => NoSuchElement
            move 0 580 => 580
            """);
        Script.run("8: NoSuchElementException: where another visit is", """
            hire 2 0 40 => 0
            addService 1 20 => 0
            book 0 0 => 0
            book 0 0 => 1
            move 0 1 => NoSuchElement
            move 0 20 => NoSuchElement
            move 1 1 => 20
            move 0 0 => 0
            """);
        Script.run("8: a move that is refused changes nothing: the visit stays", """
            hire 15 0 600 => 0
            hire 15 0 600 => 1
            addUsual 2 => 0
            addService 1 20 => 1
            bookWith 1 1 100 => 0
            bookWith 0 1 100 => 1
            startOf 1 => 120
            move 1 556 => NoSuchElement
            startOf 1 => 120
            staffOf 1 => 1
            chairOf 1 => 0
            loadOf 1 => 45
            staffAt 1 120 => 1
            staffAt 1 134 => 1
            staffAt 1 135 => -1
            staffAt 1 155 => 1
            staffAt 1 164 => 1
            chairAt 0 120 => 1
            chairAt 0 140 => 1
            chairAt 0 164 => 1
            chairAt 0 165 => -1
            """);
        Script.run("8: a move that is refused changes nothing: the list is not served", """
            hire 15 0 100 => 0
            addService 1 20 => 0
            book 0 0 => 0
            request 0 599 => 1                     // has its place at 20
            move 0 81 => NoSuchElement
            move 0 600 => IndexOutOfBounds
            move 1 0 => IndexOutOfBounds
            requests => 1
            visits => 1
            """);
    }

    private static void dropArguments() {
        Script.run("9: IndexOutOfBoundsException if there is no such visit", ONE_SERVICE + """
            drop 0 => IndexOutOfBounds
            book 0 0 => 0
            drop 1 => IndexOutOfBounds
            drop -1 => IndexOutOfBounds
            drop MAX => IndexOutOfBounds
            drop MIN => IndexOutOfBounds
            startOf 0 => 0
            drop 0 => 0
            """);
        Script.run("9: the last visit that there can be", THIRTY_VISITS + """
            drop 30 => IndexOutOfBounds
            drop 29 => 0
            startOf 29 => -1
            staffAt 0 580 => -1
            """);
        Script.run("9: IndexOutOfBoundsException if it was dropped", ONE_SERVICE + """
            book 0 0 => 0
            drop 0 => 0
            drop 0 => IndexOutOfBounds
            book 0 0 => 1
            drop 0 => IndexOutOfBounds
            startOf 1 => 0
            """);
        Script.run("9: a drop that is refused changes nothing: the list is not served", ONE_SERVICE + """
            book 0 0 => 0
            drop 0 => 0
            request 0 599 => 1
            drop 0 => IndexOutOfBounds
            drop 1 => IndexOutOfBounds
            drop -1 => IndexOutOfBounds
            requests => 1
            visits => 1
            """);
    }

    private static void dropAnswers() {
        Script.run("9: returns how many requests are booked by that: none, as there is none", ONE_SERVICE + """
            book 0 0 => 0
            drop 0 => 0
            visits => 1
            """);
        Script.run("9: returns how many requests are booked by that: none, as none has a place", ONE_SERVICE + """
            book 0 0 => 0
            book 0 0 => 1
            request 0 19 => 1
            drop 1 => 0
            requests => 1
            """);
        Script.run("9: returns how many requests are booked by that: some", ONE_SERVICE + """
            book 0 0 => 0
            request 0 20 => 1
            request 0 20 => 2
            request 0 20 => 3
            drop 0 => 2
            requests => 1
            visits => 3
            """);
        Script.run("9: returns how many requests are booked by that: all six", ONE_SERVICE + """
            book 0 0 => 0
            request 0 599 => 1
            request 0 599 => 2
            request 0 599 => 3
            request 0 599 => 4
            request 0 599 => 5
            request 0 599 => 6
            drop 0 => 6
            requests => 0
            visits => 7
            startOf 6 => 100
            """);
        Script.run("9: returns how many requests are booked by that: none behind the thirtieth visit",
            ONE_SERVICE + Script.counting("book 0 0", 0, 27) + """
            request 0 599 => 1
            request 0 599 => 2
            request 0 599 => 3
            drop 0 => 2
            visits => 30
            drop 1 => 0
            requests => 1
            """);
    }

    private static void dropGivesFree() {
        Script.run("9: drops a visit: its chair, its member of staff and its load are free", """
            hire 15 0 600 => 0
            addUsual 2 => 0
            book 0 100 => 0
            drop 0 => 0
            startOf 0 => -1
            staffOf 0 => -1
            chairOf 0 => -1
            serviceOf 0 => 0
            staffAt 0 100 => -1
            staffAt 0 114 => -1
            staffAt 0 135 => -1
            staffAt 0 144 => -1
            chairAt 0 100 => -1
            chairAt 0 120 => -1
            chairAt 0 144 => -1
            loadOf 0 => 0
            earliest 0 100 => 100
            """);
        Script.run("9: drops a visit: others that touch it or lie in its rest stay", """
            hire 15 0 600 => 0
            addUsual 2 => 0
            addUsual 3 => 1
            book 0 100 => 0
            book 1 115 => 1
            book 1 80 => 2
            book 1 145 => 3
            drop 0 => 0
            staffAt 0 99 => 2
            staffAt 0 100 => -1
            staffAt 0 115 => 1
            staffAt 0 134 => 1
            staffAt 0 144 => -1
            staffAt 0 145 => 3
            chairAt 0 99 => 2
            chairAt 1 115 => 1
            chairAt 0 145 => 3
            """);
    }
}
