/** Promises 6, 7 and 16 to 23: booking, and visits as they are. */
public final class BookingTest {
    public static void main(String[] args) {
        bookTakesTheLeastStart();
        bookChoosesStaffAndChair();
        bookHeedsSkillsAndShifts();
        bookUsesRests();
        bookThrows();
        bookWith();
        bookWithThrows();
        thirtyVisits();
        visitsAsTheyAre();
        loadOf();
        whoIsTakenWhen();
        Script.end();
    }

    private static void bookTakesTheLeastStart() {
        Script.run("promise 6: the least start from the minute on", """
            hire 15 0 600 => 0
            addService 1 20 => 0
            book 0 100 => 0
            startOf 0 => 100
            book 0 81 => 1                         // no room between 81 and 100
            startOf 1 => 120
            book 0 80 => 2
            startOf 2 => 80
            book 0 0 => 3
            startOf 3 => 0
            book 0 119 => 4
            startOf 4 => 140
            book 0 580 => 5
            startOf 5 => 580
            book 0 580 => NoSuchElement
            book 0 561 => NoSuchElement
            book 0 560 => 6
            startOf 6 => 560
            """);
    }

    private static void bookChoosesStaffAndChair() {
        Script.run("promise 6: the least load, then the lowest number, and the lowest chair", """
            hire 15 0 600 => 0
            hire 15 0 600 => 1
            hire 15 0 600 => 2
            addService 1 30 => 0
            addService 0 10 => 1
            addStep 1 -1 100 => 2
            book 0 0 => 0
            staffOf 0 => 0
            chairOf 0 => 0
            book 1 0 => 1
            staffOf 1 => 1
            chairOf 1 => 1
            book 1 0 => 2
            staffOf 2 => 2
            chairOf 2 => 2
            book 1 30 => 3                         // loads are 30, 10, 10: rests are no load
            startOf 3 => 30
            staffOf 3 => 1
            chairOf 3 => 0
            book 0 200 => 4
            staffOf 4 => 2
            chairOf 4 => 0
            book 0 200 => 5
            staffOf 5 => 1
            chairOf 5 => 1
            book 0 200 => 6
            staffOf 6 => 0
            chairOf 6 => 2
            book 0 200 => 7                        // all are taken until 230
            startOf 7 => 230
            staffOf 7 => 2
            chairOf 7 => 0
            """);
        Script.run("promise 6: four chairs for five members of staff", """
            hire 1 0 600 => 0
            hire 1 0 600 => 1
            hire 1 0 600 => 2
            hire 1 0 600 => 3
            hire 1 0 600 => 4
            addService 0 200 => 0
            book 0 10 => 0
            book 0 20 => 1
            book 0 30 => 2
            book 0 40 => 3
            chairOf 3 => 3
            book 0 50 => 4
            startOf 4 => 210
            chairOf 4 => 0
            staffOf 4 => 4
            book 0 0 => 5
            startOf 5 => 220
            chairOf 5 => 1
            staffOf 5 => 0
            """);
    }

    private static void bookHeedsSkillsAndShifts() {
        Script.run("promise 6: all skills, and the whole visit within the shift", """
            hire 1 0 600 => 0
            hire 2 0 600 => 1
            hire 3 300 345 => 2
            addUsual 0 => 0                        // asks for WASH and CUT
            addUsual 2 => 1                        // asks for CARE and WASH
            book 1 0 => NoSuchElement
            book 0 0 => 0
            startOf 0 => 300
            staffOf 0 => 2
            book 0 0 => NoSuchElement              // 340 to 380 is outside the shift
            drop 0 => 0
            book 0 305 => 1
            startOf 1 => 305
            book 0 306 => NoSuchElement
            drop 1 => 0
            book 0 306 => NoSuchElement
            """);
        Script.run("promise 6: a rest lies within the shift, too", """
            hire 1 0 30 => 0
            addService 0 10 => 0
            addStep 0 -1 20 => 2
            addService 0 10 => 1
            addStep 1 -1 21 => 2
            book 1 0 => NoSuchElement
            book 0 1 => NoSuchElement
            book 0 0 => 0
            startOf 0 => 0
            """);
    }

    private static void bookUsesRests() {
        Script.run("promise 6: in a rest the member of staff is free and the chair is not", """
            hire 15 0 600 => 0
            addService 0 10 => 0
            addStep 0 -1 30 => 2
            addStep 0 0 10 => 3
            addService 1 30 => 1
            addService 1 31 => 2
            book 0 0 => 0
            book 1 0 => 1
            startOf 1 => 10
            chairOf 1 => 1
            book 2 0 => 2
            startOf 2 => 50
            chairOf 2 => 0
            book 0 0 => 3                          // 81; at 40 its last step meets 80
            startOf 3 => 81
            book 0 0 => 4
            startOf 4 => 91                        // each has its steps in the other's rests
            chairOf 4 => 1
            book 0 0 => 5
            startOf 5 => 101
            chairOf 5 => 2
            """);
    }

    private static void bookThrows() {
        Script.run("promise 6: book throws", """
            addService 0 10 => 0
            book 0 0 => NoSuchElement
            hire 1 0 600 => 0
            book 1 0 => IndexOutOfBounds
            book -1 0 => IndexOutOfBounds
            book MAX 0 => IndexOutOfBounds
            book MIN 0 => IndexOutOfBounds
            book 0 -1 => IndexOutOfBounds
            book 0 600 => IndexOutOfBounds
            book 0 MAX => IndexOutOfBounds
            book 0 MIN => IndexOutOfBounds
            book 0 591 => NoSuchElement
            book 0 599 => NoSuchElement
            visits => 0
            book 0 590 => 0
            startOf 0 => 590
            """);
        Script.run("promise 6: a service that is longer than the day", """
            hire 1 0 600 => 0
            addService 0 200 => 0
            addStep 0 0 200 => 2
            addStep 0 0 200 => 3
            addService 0 1 => 1
            addStep 1 -1 200 => 2
            addStep 1 -1 200 => 3
            addStep 1 -1 200 => 4
            book 1 0 => NoSuchElement
            book 0 1 => NoSuchElement
            book 0 0 => 0
            startOf 0 => 0
            """);
    }

    private static void bookWith() {
        Script.run("promise 7: bookWith takes that member at their least start", """
            hire 15 0 600 => 0
            hire 15 50 600 => 1
            addService 1 20 => 0
            bookWith 0 1 0 => 0                    // not where the service has its place
            startOf 0 => 50
            staffOf 0 => 1
            chairOf 0 => 0
            bookWith 0 1 0 => 1
            startOf 1 => 70
            bookWith 0 1 45 => 2                   // and not whose load is the least
            startOf 2 => 90
            bookWith 0 0 55 => 3
            startOf 3 => 55
            staffOf 3 => 0
            chairOf 3 => 1
            bookWith 0 0 0 => 4
            startOf 4 => 0
            chairOf 4 => 0
            bookWith 0 0 31 => 5
            startOf 5 => 31
            chairOf 5 => 1
            """);
        Script.run("promise 7: some chair must be free", """
            hire 1 0 600 => 0
            hire 1 0 600 => 1
            hire 1 0 600 => 2
            hire 1 0 600 => 3
            hire 1 0 600 => 4
            addService 0 100 => 0
            bookWith 0 0 0 => 0
            bookWith 0 1 5 => 1
            bookWith 0 2 0 => 2
            bookWith 0 3 0 => 3
            bookWith 0 4 0 => 4
            startOf 4 => 100
            chairOf 4 => 0
            bookWith 0 1 0 => 5
            startOf 5 => 105
            chairOf 5 => 1
            """);
    }

    private static void bookWithThrows() {
        Script.run("promise 7: bookWith throws", """
            bookWith 0 0 0 => IndexOutOfBounds
            hire 1 0 100 => 0
            bookWith 0 0 0 => IndexOutOfBounds
            addService 0 60 => 0
            addService 1 10 => 1
            hire 2 0 600 => 1
            bookWith 2 0 0 => IndexOutOfBounds
            bookWith -1 0 0 => IndexOutOfBounds
            bookWith 0 2 0 => IndexOutOfBounds
            bookWith 0 -1 0 => IndexOutOfBounds
            bookWith 0 MAX 0 => IndexOutOfBounds
            bookWith 0 MIN 0 => IndexOutOfBounds
            bookWith 0 0 -1 => IndexOutOfBounds
            bookWith 0 0 600 => IndexOutOfBounds
            bookWith 0 1 0 => NoSuchElement        // lacks the skill
            bookWith 1 0 0 => NoSuchElement
            bookWith 0 0 41 => NoSuchElement       // ends behind the shift
            bookWith 0 0 40 => 0
            bookWith 0 0 0 => NoSuchElement        // is taken
            bookWith 1 1 591 => NoSuchElement
            bookWith 1 1 590 => 1
            """);
    }

    private static void thirtyVisits() {
        Script.run("promises 6 and 7: thirty visits, those that were dropped included",
            "hire 3 0 600 => 0\n"
            + "addService 0 10 => 0\n"
            + "addService 2 10 => 1\n"
            + Script.counting("book 0 0", 0, 14)
            + Script.counting("bookWith 0 0 0", 15, 29)
            + """
            startOf 29 => 290
            book 0 0 => IllegalState
            bookWith 0 0 0 => IllegalState
            book 1 0 => IllegalState               // named ahead of NoSuchElement
            bookWith 1 0 0 => IllegalState
            book 2 0 => IndexOutOfBounds
            book 0 600 => IndexOutOfBounds
            bookWith 2 0 0 => IndexOutOfBounds
            bookWith 0 1 0 => IndexOutOfBounds
            bookWith 0 0 600 => IndexOutOfBounds
            visits => 30
            drop 3 => 0
            visits => 30
            book 0 0 => IllegalState
            bookWith 0 0 0 => IllegalState
            move 4 0 => 30
            earliest 0 0 => 40
            startOf 30 => IndexOutOfBounds
            """);
    }

    private static void visitsAsTheyAre() {
        Script.run("promises 16 to 20: visits, startOf, staffOf, chairOf, serviceOf", """
            hire 1 0 600 => 0
            hire 2 0 600 => 1
            addService 0 10 => 0
            addService 1 10 => 1
            visits => 0
            startOf 0 => IndexOutOfBounds
            staffOf 0 => IndexOutOfBounds
            chairOf 0 => IndexOutOfBounds
            serviceOf 0 => IndexOutOfBounds
            book 0 7 => 0
            book 1 8 => 1
            visits => 2
            startOf 1 => 8
            staffOf 1 => 1
            chairOf 1 => 1
            serviceOf 1 => 1
            startOf 0 => 7
            staffOf 0 => 0
            chairOf 0 => 0
            serviceOf 0 => 0
            drop 1 => 0
            visits => 2
            startOf 1 => -1
            staffOf 1 => -1
            chairOf 1 => -1
            serviceOf 1 => 1
            book 0 7 => 2
            startOf 2 => 17
            startOf 3 => IndexOutOfBounds
            startOf -1 => IndexOutOfBounds
            startOf MIN => IndexOutOfBounds
            staffOf 3 => IndexOutOfBounds
            staffOf -1 => IndexOutOfBounds
            staffOf MAX => IndexOutOfBounds
            chairOf 3 => IndexOutOfBounds
            chairOf -1 => IndexOutOfBounds
            chairOf MAX => IndexOutOfBounds
            serviceOf 3 => IndexOutOfBounds
            serviceOf -1 => IndexOutOfBounds
            serviceOf MIN => IndexOutOfBounds
            """);
    }

    private static void loadOf() {
        Script.run("promise 21: loadOf", """
            loadOf 0 => IndexOutOfBounds
            hire 15 0 600 => 0
            hire 15 0 600 => 1
            addUsual 1 => 0
            addUsual 3 => 1
            loadOf 0 => 0
            bookWith 0 0 0 => 0
            loadOf 0 => 80
            bookWith 1 0 0 => 1
            loadOf 0 => 100
            loadOf 1 => 0
            bookWith 1 1 0 => 2
            loadOf 1 => 20
            drop 0 => 0
            loadOf 0 => 20
            move 2 0 => 0
            loadOf 1 => 20
            drop 1 => 0
            loadOf 0 => 0
            loadOf 2 => IndexOutOfBounds
            loadOf -1 => IndexOutOfBounds
            loadOf MAX => IndexOutOfBounds
            loadOf MIN => IndexOutOfBounds
            """);
    }

    private static void whoIsTakenWhen() {
        Script.run("promises 22 and 23: staffAt, chairAt", """
            hire 15 0 600 => 0
            hire 15 0 600 => 1
            addUsual 2 => 0                        // CARE 15, rest 20, WASH 10
            addService 1 20 => 1
            book 0 100 => 0
            staffAt 0 99 => -1
            staffAt 0 100 => 0
            staffAt 0 114 => 0
            staffAt 0 115 => -1
            staffAt 0 134 => -1
            staffAt 0 135 => 0
            staffAt 0 144 => 0
            staffAt 0 145 => -1
            chairAt 0 99 => -1
            chairAt 0 100 => 0
            chairAt 0 120 => 0
            chairAt 0 144 => 0
            chairAt 0 145 => -1
            chairAt 1 120 => -1
            bookWith 1 0 110 => 1
            staffAt 0 114 => 0
            staffAt 0 115 => 1
            staffAt 0 134 => 1
            staffAt 0 135 => 0
            staffAt 1 120 => -1
            chairAt 1 115 => 1
            drop 0 => 0
            staffAt 0 100 => -1
            staffAt 0 120 => 1
            staffAt 0 140 => -1
            chairAt 0 120 => -1
            chairAt 1 120 => 1
            book 1 599 => NoSuchElement
            book 1 580 => 2
            staffAt 1 599 => 2
            chairAt 0 599 => 2
            staffAt 1 600 => IndexOutOfBounds
            staffAt 1 -1 => IndexOutOfBounds
            staffAt 1 MAX => IndexOutOfBounds
            staffAt 2 0 => IndexOutOfBounds
            staffAt -1 0 => IndexOutOfBounds
            staffAt MIN 0 => IndexOutOfBounds
            chairAt 0 600 => IndexOutOfBounds
            chairAt 0 -1 => IndexOutOfBounds
            chairAt 0 MIN => IndexOutOfBounds
            chairAt 4 0 => IndexOutOfBounds
            chairAt -1 0 => IndexOutOfBounds
            chairAt MAX 0 => IndexOutOfBounds
            """);
    }
}
