/** Promises 1 to 5 and 13 to 15: staff and services. */
public final class SetupTest {
    public static void main(String[] args) {
        newObject();
        hire();
        addService();
        addStep();
        addStepToFixedService();
        addUsual();
        questionsOfServices();
        Script.end();
    }

    private static void newObject() {
        Script.run("promise 1: a new object is empty", """
            visits => 0
            requests => 0
            peak => 0
            fill 600 => 0
            loadOf 0 => IndexOutOfBounds
            lengthOf 0 => IndexOutOfBounds
            startOf 0 => IndexOutOfBounds
            requestAt 0 => IndexOutOfBounds
            staffAt 0 0 => IndexOutOfBounds
            chairAt 0 0 => -1
            chairAt 3 599 => -1
            book 0 0 => IndexOutOfBounds
            """);
    }

    private static void hire() {
        Script.run("promise 2: hire numbers the staff from 0 up to five", """
            hire 1 0 600 => 0
            hire 15 0 1 => 1
            hire 8 599 600 => 2
            hire 3 100 101 => 3
            hire 7 20 300 => 4
            hire 7 20 300 => IllegalState
            loadOf 4 => 0
            loadOf 5 => IndexOutOfBounds
            hire 0 20 300 => IllegalArgument       // named ahead of IllegalState
            hire 7 300 300 => IllegalArgument
            """);
        Script.run("promise 2: hire refuses what is out of range", """
            hire 0 0 600 => IllegalArgument
            hire 16 0 600 => IllegalArgument
            hire -1 0 600 => IllegalArgument
            hire MIN 0 600 => IllegalArgument
            hire 1 -1 600 => IllegalArgument
            hire 1 600 601 => IllegalArgument
            hire 1 600 600 => IllegalArgument
            hire 1 10 10 => IllegalArgument
            hire 1 10 9 => IllegalArgument
            hire 1 0 601 => IllegalArgument
            hire 1 0 MAX => IllegalArgument
            hire 1 MAX MIN => IllegalArgument
            hire 1 MIN 5 => IllegalArgument
            loadOf 0 => IndexOutOfBounds
            hire 1 0 1 => 0
            """);
    }

    private static void addService() {
        Script.run("promise 3: addService makes a service of one step", """
            addService 0 1 => 0
            addService 3 200 => 1
            lengthOf 0 => 1
            workOf 1 => 200
            skillsOf 1 => 8
            addStep 0 1 5 => 2
            addService -1 10 => IllegalArgument
            addService 4 10 => IllegalArgument
            addService 0 0 => IllegalArgument
            addService 0 201 => IllegalArgument
            addService MIN 10 => IllegalArgument
            addService 0 MAX => IllegalArgument
            addService 0 MIN => IllegalArgument
            lengthOf 2 => IndexOutOfBounds
            addService 1 7 => 2
            addService 1 7 => 3
            addUsual 0 => 4
            addService 1 7 => 5
            addService 1 7 => 6
            addService 1 7 => 7
            addService 1 7 => IllegalState
            addService 4 7 => IllegalArgument
            addService 1 201 => IllegalArgument
            """);
    }

    private static void addStep() {
        Script.run("promise 4: addStep", """
            addStep 0 0 10 => IndexOutOfBounds
            addService 1 30 => 0
            addService 2 5 => 1
            addStep 0 -1 200 => 2
            addStep 0 0 1 => 3
            lengthOf 0 => 231
            workOf 0 => 31
            skillsOf 0 => 3
            lengthOf 1 => 5
            addStep 0 -2 10 => IllegalArgument
            addStep 0 4 10 => IllegalArgument
            addStep 0 0 0 => IllegalArgument
            addStep 0 -1 201 => IllegalArgument
            addStep -1 0 10 => IndexOutOfBounds
            addStep 2 0 10 => IndexOutOfBounds
            addStep 2 9 999 => IndexOutOfBounds
            addStep MAX 0 10 => IndexOutOfBounds
            addStep MIN 0 10 => IndexOutOfBounds
            addStep 0 -1 200 => 4
            addStep 0 -1 200 => 5
            addStep 0 -1 200 => IllegalState
            addStep 0 0 1 => IllegalState
            addStep 0 5 1 => IllegalArgument
            lengthOf 0 => 631
            workOf 0 => 31
            addStep 1 -1 10 => 2
            """);
    }

    private static void addStepToFixedService() {
        Script.run("promise 4: a service that was booked or requested keeps its steps", """
            hire 15 0 100 => 0
            addService 0 10 => 0
            addService 1 20 => 1
            addService 1 30 => 2
            addService 2 40 => 3
            addService 2 40 => 4
            book 0 0 => 0
            addStep 0 0 1 => IllegalState
            addStep 0 0 0 => IllegalArgument
            drop 0 => 0
            addStep 0 0 1 => IllegalState          // even if that is over
            request 1 50 => 1
            addStep 1 0 1 => IllegalState
            book 3 0 => 1
            drop 1 => 1
            requests => 0
            addStep 1 0 1 => IllegalState
            bookWith 3 0 0 => 3
            addStep 3 0 1 => IllegalState
            book 2 90 => NoSuchElement             // was not booked by that
            bookWith 2 0 90 => NoSuchElement
            request 2 600 => IndexOutOfBounds
            addStep 2 0 1 => 2
            addStep 4 -1 1 => 2
            """);
    }

    private static void addUsual() {
        Script.run("promise 5: the usual services", """
            hire 15 0 600 => 0
            addUsual 1 => 0
            addUsual 0 => 1
            addUsual 3 => 2
            addUsual 2 => 3
            lengthOf 0 => 115
            workOf 0 => 80
            skillsOf 0 => 7
            lengthOf 1 => 40
            workOf 1 => 40
            skillsOf 1 => 3
            lengthOf 2 => 20
            workOf 2 => 20
            skillsOf 2 => 2
            lengthOf 3 => 45
            workOf 3 => 25
            skillsOf 3 => 9
            book 0 0 => 0                          // COLOUR 40, rest 35, WASH 10, CUT 30
            staffAt 0 39 => 0
            staffAt 0 40 => -1
            staffAt 0 74 => -1
            staffAt 0 75 => 0
            book 3 115 => 1                        // CARE 15, rest 20, WASH 10
            staffAt 0 129 => 1
            staffAt 0 130 => -1
            staffAt 0 149 => -1
            staffAt 0 150 => 1
            addStep 0 0 1 => IllegalState
            addStep 1 -1 1 => 3
            addStep 2 -1 1 => 2
            addUsual 0 => 4
            lengthOf 4 => 40
            addStep 4 0 1 => 3
            """);
        Script.run("promise 5: the rows of the steps", """
            addUsual 0 => 0
            addUsual 1 => 1
            addUsual 2 => 2
            addUsual 3 => 3
            addStep 0 -1 1 => 3
            addStep 1 -1 1 => 5
            addStep 2 -1 1 => 4
            addStep 3 -1 1 => 2
            addStep 1 -1 1 => IllegalState
            addUsual -1 => IllegalArgument
            addUsual 4 => IllegalArgument
            addUsual MAX => IllegalArgument
            addUsual MIN => IllegalArgument
            addUsual 3 => 4
            addUsual 3 => 5
            addUsual 3 => 6
            addUsual 3 => 7
            addUsual 3 => IllegalState
            addUsual 4 => IllegalArgument
            """);
    }

    private static void questionsOfServices() {
        Script.run("promises 13 to 15: lengthOf, workOf, skillsOf", """
            addService 2 50 => 0
            addStep 0 -1 60 => 2
            addStep 0 0 70 => 3
            addStep 0 2 7 => 4
            lengthOf 0 => 187
            workOf 0 => 127
            skillsOf 0 => 5
            addService 3 200 => 1
            addStep 1 1 200 => 2
            addStep 1 2 200 => 3
            addStep 1 0 200 => 4
            addStep 1 0 200 => 5
            lengthOf 1 => 1000
            workOf 1 => 1000
            skillsOf 1 => 15
            lengthOf 2 => IndexOutOfBounds
            lengthOf -1 => IndexOutOfBounds
            lengthOf MAX => IndexOutOfBounds
            lengthOf MIN => IndexOutOfBounds
            workOf 2 => IndexOutOfBounds
            workOf -1 => IndexOutOfBounds
            workOf MAX => IndexOutOfBounds
            skillsOf 2 => IndexOutOfBounds
            skillsOf -1 => IndexOutOfBounds
            skillsOf MIN => IndexOutOfBounds
            """);
    }
}
