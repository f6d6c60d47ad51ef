/**
 * Promises 1 to 5 and 13 to 15: one run for each of their sentences that names a boundary.
 * A title is the promise's number and the sentence.
 */
public final class SetupBoundaryTest {
    private static final String FIVE_STAFF = """
        hire 1 0 600 => 0
        hire 1 0 600 => 1
        hire 1 0 600 => 2
        hire 1 0 600 => 3
        hire 1 0 600 => 4
        """;
    private static final String EIGHT_SERVICES = """
        addService 0 10 => 0
        addService 0 10 => 1
        addService 0 10 => 2
        addService 0 10 => 3
        addUsual 3 => 4
        addUsual 3 => 5
        addUsual 3 => 6
        addUsual 3 => 7
        """;

    public static void main(String[] args) {
        newObject();
        hireSkills();
        hireShift();
        hireAnswers();
        addService();
        addServiceAnswers();
        addStepArguments();
        addStepAnswers();
        addStepToBooked();
        addStepToUnbooked();
        addUsual();
        lengthOf();
        workOf();
        skillsOf();
        Script.end();
    }

    private static void newObject() {
        Script.run("1: a book without staff", """
            loadOf 0 => IndexOutOfBounds
            staffAt 0 0 => IndexOutOfBounds
            addService 1 1 => 0
            bookWith 0 0 0 => IndexOutOfBounds
            earliest 0 0 => -1
            earliestByScan 0 0 => -1
            staffFor 0 0 => -1
            book 0 0 => NoSuchElement
            hire 1 0 600 => 0
            """);
        Script.run("1: a book without services", """
            hire 15 0 600 => 0
            lengthOf 0 => IndexOutOfBounds
            workOf 0 => IndexOutOfBounds
            skillsOf 0 => IndexOutOfBounds
            earliest 0 0 => IndexOutOfBounds
            book 0 0 => IndexOutOfBounds
            request 0 0 => IndexOutOfBounds
            fill 0 => 0
            fill 600 => 0
            addService 1 1 => 0
            """);
        Script.run("1: a book without visits", """
            visits => 0
            startOf 0 => IndexOutOfBounds
            drop 0 => IndexOutOfBounds
            move 0 0 => IndexOutOfBounds
            chairAt 0 0 => -1
            chairAt 3 599 => -1
            peak => 0
            """);
        Script.run("1: nor has it requests", """
            requests => 0
            requestAt 0 => IndexOutOfBounds
            """);
        SalonBook first = Script.object("hire 15 0 600\naddUsual 3\nbook 0 0\nrequest 0 0");
        SalonBook second = new SalonBook();
        Script.check("1: whatever another book holds",
            first.visits() == 1 && second.visits() == 0 && second.requests() == 0
            && second.hire(15, 0, 600) == 0 && second.addService(1, 10) == 0
            && second.chairAt(0, 0) == -1 && second.staffAt(0, 0) == -1
            && second.book(0, 0) == 0 && second.startOf(0) == 0
            && first.chairAt(0, 19) == 0 && first.lengthOf(0) == 20,
            "two books share something");
    }

    private static void hireSkills() {
        Script.run("2: skills, 1 to 15: too small", """
            hire 0 0 600 => IllegalArgument
            hire -1 0 600 => IllegalArgument
            hire -15 0 600 => IllegalArgument
            hire MIN 0 600 => IllegalArgument
            loadOf 0 => IndexOutOfBounds
            """);
        Script.run("2: skills, 1 to 15: the least and the greatest", """
            hire 1 0 600 => 0
            hire 15 0 600 => 1
            addService 0 1 => 0
            addService 3 1 => 1
            staffFor 0 0 => 0
            staffFor 1 0 => 1
            """);
        Script.run("2: skills, 1 to 15: too large", """
            hire 16 0 600 => IllegalArgument
            hire 17 0 600 => IllegalArgument
            hire 31 0 600 => IllegalArgument
            hire MAX 0 600 => IllegalArgument
            loadOf 0 => IndexOutOfBounds
            """);
    }

    private static void hireShift() {
        Script.run("2: from, 0 to 599: too small", """
            hire 1 -1 600 => IllegalArgument
            hire 1 -1 0 => IllegalArgument
            hire 1 MIN 600 => IllegalArgument
            loadOf 0 => IndexOutOfBounds
            """);
        Script.run("2: from, 0 to 599: the least and the greatest", """
            hire 2 599 600 => 0
            addService 1 1 => 0
            earliest 0 0 => 599
            hire 2 0 600 => 1
            earliest 0 0 => 0
            """);
        Script.run("2: from, 0 to 599: too large", """
            hire 1 600 601 => IllegalArgument
            hire 1 600 600 => IllegalArgument
            hire 1 MAX 600 => IllegalArgument
            hire 1 MAX MAX => IllegalArgument
            loadOf 0 => IndexOutOfBounds
            """);
        Script.run("2: to, from plus 1 to 600: too small", """
            hire 1 100 100 => IllegalArgument
            hire 1 100 99 => IllegalArgument
            hire 1 0 0 => IllegalArgument
            hire 1 0 -1 => IllegalArgument
            hire 1 599 599 => IllegalArgument
            hire 1 100 MIN => IllegalArgument
            hire 1 MAX MIN => IllegalArgument      // where from plus 1 wraps around
            loadOf 0 => IndexOutOfBounds
            """);
        Script.run("2: to, from plus 1 to 600: the least", """
            hire 2 100 101 => 0
            hire 2 0 1 => 1
            addService 1 1 => 0
            earliest 0 1 => 100
            earliest 0 101 => -1
            earliest 0 0 => 0
            """);
        Script.run("2: to, from plus 1 to 600: the greatest", """
            hire 2 100 600 => 0
            addService 1 1 => 0
            earliest 0 599 => 599
            """);
        Script.run("2: to, from plus 1 to 600: too large", """
            hire 1 100 601 => IllegalArgument
            hire 1 599 601 => IllegalArgument
            hire 1 0 MAX => IllegalArgument
            loadOf 0 => IndexOutOfBounds
            """);
    }

    private static void hireAnswers() {
        Script.run("2: returns the number of the member of staff: 0 to 4", """
            hire 1 0 600 => 0
            hire 2 0 600 => 1
            hire 0 0 600 => IllegalArgument        // a refused one has no number
            hire 3 0 600 => 2
            hire 3 600 601 => IllegalArgument
            hire 4 0 600 => 3
            hire 5 0 600 => 4
            """);
        Script.run("2: IllegalStateException if there are 5 members of staff", FIVE_STAFF + """
            hire 1 0 600 => IllegalState
            hire 15 599 600 => IllegalState
            loadOf 4 => 0
            loadOf 5 => IndexOutOfBounds
            """);
        Script.run("2: of several exceptions the one that is named first", FIVE_STAFF + """
            hire 0 0 600 => IllegalArgument
            hire 16 0 600 => IllegalArgument
            hire 1 -1 600 => IllegalArgument
            hire 1 600 600 => IllegalArgument
            hire 1 0 0 => IllegalArgument
            hire 1 0 601 => IllegalArgument
            """);
    }

    private static void addService() {
        Script.run("3: skill, 0 to 3: too small", """
            addService -1 10 => IllegalArgument    // the first step is no rest
            addService -2 10 => IllegalArgument
            addService MIN 10 => IllegalArgument
            lengthOf 0 => IndexOutOfBounds
            """);
        Script.run("3: skill, 0 to 3: the least and the greatest", """
            addService 0 10 => 0
            addService 3 10 => 1
            skillsOf 0 => 1
            skillsOf 1 => 8
            """);
        Script.run("3: skill, 0 to 3: too large", """
            addService 4 10 => IllegalArgument
            addService 32 10 => IllegalArgument
            addService MAX 10 => IllegalArgument
            lengthOf 0 => IndexOutOfBounds
            """);
        Script.run("3: minutes, 1 to 200: too small", """
            addService 0 0 => IllegalArgument
            addService 0 -1 => IllegalArgument
            addService 0 MIN => IllegalArgument
            lengthOf 0 => IndexOutOfBounds
            """);
        Script.run("3: minutes, 1 to 200: the least and the greatest", """
            addService 0 1 => 0
            addService 0 200 => 1
            lengthOf 0 => 1
            lengthOf 1 => 200
            """);
        Script.run("3: minutes, 1 to 200: too large", """
            addService 0 201 => IllegalArgument
            addService 0 600 => IllegalArgument
            addService 0 MAX => IllegalArgument
            lengthOf 0 => IndexOutOfBounds
            """);
    }

    private static void addServiceAnswers() {
        Script.run("3: adds a service with one step", """
            addService 2 30 => 0
            lengthOf 0 => 30
            workOf 0 => 30
            skillsOf 0 => 4
            addStep 0 -1 1 => 2
            """);
        Script.run("3: returns the number of the service: 0 to 7", """
            addService 0 1 => 0
            addService 0 0 => IllegalArgument      // a refused one has no number
            addService 0 2 => 1
            addUsual 3 => 2
            addService 4 1 => IllegalArgument
            addService 0 3 => 3
            addService 0 4 => 4
            addService 0 5 => 5
            addService 0 6 => 6
            addService 0 7 => 7
            lengthOf 3 => 3
            lengthOf 7 => 7
            """);
        Script.run("3: IllegalStateException if there are 8 services", EIGHT_SERVICES + """
            addService 0 10 => IllegalState
            addService 3 200 => IllegalState
            lengthOf 7 => 20
            lengthOf 8 => IndexOutOfBounds
            """);
        Script.run("3: of several exceptions the one that is named first", EIGHT_SERVICES + """
            addService -1 10 => IllegalArgument
            addService 4 10 => IllegalArgument
            addService 0 0 => IllegalArgument
            addService 0 201 => IllegalArgument
            """);
    }

    private static void addStepArguments() {
        Script.run("4: IndexOutOfBoundsException if there is no such service", """
            addStep 0 0 10 => IndexOutOfBounds
            addService 0 10 => 0
            addStep 1 0 10 => IndexOutOfBounds
            addStep -1 0 10 => IndexOutOfBounds
            addStep MAX 0 10 => IndexOutOfBounds
            addStep MIN 0 10 => IndexOutOfBounds
            addStep 0 0 10 => 2
            """);
        Script.run("4: the last service that there can be", EIGHT_SERVICES + """
            addStep 8 0 10 => IndexOutOfBounds
            addStep 7 0 10 => 2
            lengthOf 7 => 30
            lengthOf 6 => 20
            """);
        Script.run("4: skill, 0 to 3: too small", """
            addService 1 10 => 0
            addStep 0 -2 10 => IllegalArgument
            addStep 0 -31 10 => IllegalArgument
            addStep 0 MIN 10 => IllegalArgument
            """);
        Script.run("4: skill, 0 to 3: the least and the greatest", """
            addService 1 10 => 0
            addStep 0 0 10 => 2
            skillsOf 0 => 3
            addStep 0 3 10 => 3
            skillsOf 0 => 11
            """);
        Script.run("4: skill, 0 to 3: too large", """
            addService 1 10 => 0
            addStep 0 4 10 => IllegalArgument
            addStep 0 32 10 => IllegalArgument
            addStep 0 MAX 10 => IllegalArgument
            """);
        Script.run("4: NONE for a rest", """
            addService 1 10 => 0
            addStep 0 -1 20 => 2
            lengthOf 0 => 30
            workOf 0 => 10
            skillsOf 0 => 2
            """);
        Script.run("4: minutes, 1 to 200: too small", """
            addService 1 10 => 0
            addStep 0 1 0 => IllegalArgument
            addStep 0 -1 0 => IllegalArgument
            addStep 0 1 -1 => IllegalArgument
            addStep 0 1 MIN => IllegalArgument
            """);
        Script.run("4: minutes, 1 to 200: the least and the greatest", """
            addService 1 10 => 0
            addStep 0 1 1 => 2
            addStep 0 1 200 => 3
            addStep 0 -1 1 => 4
            addStep 0 -1 200 => 5
            lengthOf 0 => 412
            """);
        Script.run("4: minutes, 1 to 200: too large", """
            addService 1 10 => 0
            addStep 0 1 201 => IllegalArgument
            addStep 0 -1 201 => IllegalArgument
            addStep 0 1 MAX => IllegalArgument
            """);
    }

    private static void addStepAnswers() {
        Script.run("4: adds a step at the end of a service", """
            hire 15 0 600 => 0
            addService 1 10 => 0
            addStep 0 -1 20 => 2
            addStep 0 0 30 => 3
            book 0 0 => 0
            staffAt 0 9 => 0
            staffAt 0 10 => -1
            staffAt 0 29 => -1
            staffAt 0 30 => 0
            staffAt 0 59 => 0
            staffAt 0 60 => -1
            """);
        Script.run("4: returns how many steps the service has then: 2 to 5", """
            addService 1 10 => 0
            addService 1 10 => 1
            addStep 0 1 10 => 2
            addStep 1 1 10 => 2
            addStep 0 4 10 => IllegalArgument      // a refused one is none
            addStep 0 1 10 => 3
            addStep 0 1 10 => 4
            addStep 0 1 10 => 5
            addStep 1 1 10 => 3
            """);
        Script.run("4: IllegalStateException if the service has 5 steps", """
            addService 1 10 => 0
            addStep 0 -1 10 => 2
            addStep 0 -1 10 => 3
            addStep 0 -1 10 => 4
            addStep 0 -1 10 => 5
            addStep 0 1 10 => IllegalState
            addStep 0 -1 1 => IllegalState
            lengthOf 0 => 50
            """);
        Script.run("4: IllegalStateException if the service has 5 steps: a usual one with four", """
            addUsual 1 => 0
            addStep 0 1 10 => 5
            addStep 0 1 10 => IllegalState
            """);
        Script.run("4: of several exceptions the one that is named first", """
            hire 15 0 600 => 0
            addService 1 10 => 0
            addStep 0 -1 10 => 2
            addStep 0 -1 10 => 3
            addStep 0 -1 10 => 4
            addStep 0 -1 10 => 5
            addService 1 10 => 1
            book 1 0 => 0
            addStep 2 4 10 => IndexOutOfBounds
            addStep 2 0 0 => IndexOutOfBounds
            addStep -1 -2 201 => IndexOutOfBounds
            addStep 0 4 10 => IllegalArgument
            addStep 0 -2 10 => IllegalArgument
            addStep 0 1 0 => IllegalArgument
            addStep 0 1 201 => IllegalArgument
            addStep 1 4 10 => IllegalArgument
            addStep 1 1 201 => IllegalArgument
            """);
    }

    private static void addStepToBooked() {
        Script.run("4: IllegalStateException if it was booked", """
            hire 15 0 600 => 0
            addService 1 10 => 0
            addService 1 10 => 1
            addService 1 10 => 2
            book 0 0 => 0
            addStep 0 1 10 => IllegalState
            bookWith 1 0 0 => 1
            addStep 1 1 10 => IllegalState
            lengthOf 0 => 10
            addStep 2 1 10 => 2                    // another service was not
            """);
        Script.run("4: IllegalStateException if it was requested", """
            hire 15 0 600 => 0
            addService 1 10 => 0
            addService 1 10 => 1
            request 0 599 => 1
            addStep 0 1 10 => IllegalState
            lengthOf 0 => 10
            addStep 1 1 10 => 2
            """);
        Script.run("4: even if that is over: the visit was dropped", """
            hire 15 0 600 => 0
            addService 1 10 => 0
            book 0 0 => 0
            drop 0 => 0
            addStep 0 1 10 => IllegalState
            lengthOf 0 => 10
            """);
        Script.run("4: even if that is over: the request was booked, and that visit dropped", """
            hire 15 0 600 => 0
            addService 1 10 => 0
            addService 1 10 => 1
            request 0 599 => 1
            book 1 0 => 0
            drop 0 => 1
            requests => 0
            addStep 0 1 10 => IllegalState
            drop 1 => 0
            addStep 0 1 10 => IllegalState
            """);
    }

    private static void addStepToUnbooked() {
        Script.run("4: a booking or request that was refused is none", """
            hire 2 0 100 => 0
            addService 0 10 => 0
            addService 1 10 => 1
            addService 1 10 => 2
            book 0 0 => NoSuchElement
            bookWith 0 0 0 => NoSuchElement
            book 1 91 => NoSuchElement
            book 1 600 => IndexOutOfBounds
            request 1 600 => IndexOutOfBounds
            request 1 -1 => IndexOutOfBounds
            request 2 0 => 1
            request 2 0 => 2
            request 2 0 => 3
            request 2 0 => 4
            request 2 0 => 5
            request 2 0 => 6
            request 1 0 => IllegalState
            addStep 0 1 1 => 2
            addStep 1 1 1 => 2
            addStep 2 1 1 => IllegalState
            """);
        Script.run("4: nor is a question for a place a booking", """
            hire 15 0 600 => 0
            addService 1 10 => 0
            earliest 0 0 => 0
            earliestByScan 0 0 => 0
            staffFor 0 0 => 0
            addStep 0 1 1 => 2
            """);
    }

    private static void addUsual() {
        Script.run("5: usual, 0 to 3: too small", """
            addUsual -1 => IllegalArgument
            addUsual MIN => IllegalArgument
            lengthOf 0 => IndexOutOfBounds
            """);
        Script.run("5: usual, 0 to 3: the least and the greatest", """
            addUsual 0 => 0
            addUsual 3 => 1
            lengthOf 0 => 40
            lengthOf 1 => 20
            """);
        Script.run("5: usual, 0 to 3: too large", """
            addUsual 4 => IllegalArgument
            addUsual MAX => IllegalArgument
            lengthOf 0 => IndexOutOfBounds
            """);
        Script.run("5: returns the number of the service: the next one, whichever is usual", """
            addUsual 3 => 0
            addUsual 3 => 1
            addUsual 4 => IllegalArgument          // a refused one has no number
            addUsual 1 => 2
            addService 1 10 => 3
            addUsual 2 => 4
            addUsual 0 => 5
            addUsual 1 => 6
            addUsual 2 => 7
            lengthOf 0 => 20
            lengthOf 1 => 20
            lengthOf 2 => 115
            lengthOf 4 => 45
            lengthOf 5 => 40
            lengthOf 6 => 115
            lengthOf 7 => 45
            """);
        Script.run("5: IllegalStateException if there are 8 services", EIGHT_SERVICES + """
            addUsual 0 => IllegalState
            addUsual 1 => IllegalState
            addUsual 2 => IllegalState
            addUsual 3 => IllegalState
            lengthOf 8 => IndexOutOfBounds
            """);
        Script.run("5: of several exceptions the one that is named first", EIGHT_SERVICES + """
            addUsual -1 => IllegalArgument
            addUsual 4 => IllegalArgument
            """);
    }

    private static void lengthOf() {
        Script.run("13: the length of one step, and of five", """
            addService 0 1 => 0
            addService 0 200 => 1
            addStep 1 -1 200 => 2
            addStep 1 0 200 => 3
            addStep 1 -1 200 => 4
            addStep 1 0 200 => 5
            lengthOf 0 => 1
            lengthOf 1 => 1000
            """);
        Script.run("13: IndexOutOfBoundsException if there is no such service", """
            lengthOf 0 => IndexOutOfBounds
            addService 0 10 => 0
            lengthOf 0 => 10
            lengthOf 1 => IndexOutOfBounds
            lengthOf -1 => IndexOutOfBounds
            lengthOf MAX => IndexOutOfBounds
            lengthOf MIN => IndexOutOfBounds
            """);
        Script.run("13: IndexOutOfBoundsException behind the last of eight", EIGHT_SERVICES + """
            lengthOf 7 => 20
            lengthOf 8 => IndexOutOfBounds
            """);
    }

    private static void workOf() {
        Script.run("14: the work of one step, of five, and of one with four rests", """
            addService 0 1 => 0
            addService 0 200 => 1
            addStep 1 1 200 => 2
            addStep 1 2 200 => 3
            addStep 1 3 200 => 4
            addStep 1 0 200 => 5
            addService 0 7 => 2
            addStep 2 -1 200 => 2
            addStep 2 -1 200 => 3
            addStep 2 -1 200 => 4
            addStep 2 -1 200 => 5
            workOf 0 => 1
            workOf 1 => 1000
            workOf 2 => 7
            """);
        Script.run("14: IndexOutOfBoundsException if there is no such service", """
            workOf 0 => IndexOutOfBounds
            addService 0 10 => 0
            workOf 0 => 10
            workOf 1 => IndexOutOfBounds
            workOf -1 => IndexOutOfBounds
            workOf MAX => IndexOutOfBounds
            workOf MIN => IndexOutOfBounds
            """);
        Script.run("14: IndexOutOfBoundsException behind the last of eight", EIGHT_SERVICES + """
            workOf 7 => 20
            workOf 8 => IndexOutOfBounds
            """);
    }

    private static void skillsOf() {
        Script.run("15: the skills of one step, of rests, and all four", """
            addService 3 1 => 0
            skillsOf 0 => 8
            addStep 0 -1 1 => 2
            skillsOf 0 => 8
            addStep 0 3 1 => 3
            skillsOf 0 => 8                        // a skill that is asked for twice
            addService 0 1 => 1
            addStep 1 1 1 => 2
            addStep 1 2 1 => 3
            addStep 1 3 1 => 4
            skillsOf 1 => 15
            """);
        Script.run("15: IndexOutOfBoundsException if there is no such service", """
            skillsOf 0 => IndexOutOfBounds
            addService 0 10 => 0
            skillsOf 0 => 1
            skillsOf 1 => IndexOutOfBounds
            skillsOf -1 => IndexOutOfBounds
            skillsOf MAX => IndexOutOfBounds
            skillsOf MIN => IndexOutOfBounds
            """);
        Script.run("15: IndexOutOfBoundsException behind the last of eight", EIGHT_SERVICES + """
            skillsOf 7 => 2
            skillsOf 8 => IndexOutOfBounds
            """);
    }
}
