/**
 * Promises 24 to 29: one run for each of their sentences that names a boundary. A title is the
 * promise's number and the sentence.
 */
public final class PlaceBoundaryTest {
    private static final String ONE_SERVICE = """
        hire 2 0 600 => 0
        addService 1 20 => 0
        """;
    /** Each is asked for the same starts: the way to find one makes no difference. */
    private static final String[] EARLIEST = {"24", "earliest", "25", "earliestByScan"};

    public static void main(String[] args) {
        for (int i = 0; i < EARLIEST.length; i += 2) {
            earliestArguments(EARLIEST[i], EARLIEST[i + 1]);
            earliest(EARLIEST[i], EARLIEST[i + 1]);
            noEarliest(EARLIEST[i], EARLIEST[i + 1]);
        }
        bothWaysAreTheSame();
        staffForArguments();
        staffFor();
        inRestArguments();
        inRestWithinOneStep();
        inRestStaff();
        inRestChair();
        inRestStarts();
        fillArguments();
        fill();
        fillTies();
        peak();
        Script.end();
    }

    private static void ask(String promise, String name, String title, String text) {
        Script.run(promise + ": " + title, text.replace("ASK", name));
    }

    private static void earliestArguments(String promise, String name) {
        ask(promise, name, "IndexOutOfBoundsException if there is no such service", """
            hire 2 0 600 => 0
            ASK 0 0 => IndexOutOfBounds
            addService 1 20 => 0
            ASK 0 0 => 0
            ASK 1 0 => IndexOutOfBounds
            ASK -1 0 => IndexOutOfBounds
            ASK MAX 0 => IndexOutOfBounds
            ASK MIN 0 => IndexOutOfBounds
            """);
        ask(promise, name, "the last service that there can be", "hire 15 0 600 => 0\n"
            + Script.counting("addUsual 3", 0, 7) + """
            ASK 8 0 => IndexOutOfBounds
            ASK 7 0 => 0
            """);
        ask(promise, name, "from, 0 to 599: too small", ONE_SERVICE + """
            ASK 0 -1 => IndexOutOfBounds
            ASK 0 -20 => IndexOutOfBounds
            ASK 0 MIN => IndexOutOfBounds
            """);
        ask(promise, name, "from, 0 to 599: the least and the greatest", """
            hire 2 0 600 => 0
            addService 1 1 => 0
            ASK 0 0 => 0
            ASK 0 599 => 599
            """);
        ask(promise, name, "from, 0 to 599: too large", ONE_SERVICE + """
            ASK 0 600 => IndexOutOfBounds
            ASK 0 601 => IndexOutOfBounds
            ASK 0 MAX => IndexOutOfBounds
            """);
        ask(promise, name, "30 visits are no bar to the question", """
            hire 2 0 600 => 0
            addService 1 10 => 0
            """ + Script.counting("book 0 0", 0, 29) + """
            ASK 0 0 => 300
            """);
    }

    private static void earliest(String promise, String name) {
        ask(promise, name, "the start of the place: the minute itself", ONE_SERVICE + """
            ASK 0 0 => 0
            ASK 0 123 => 123
            ASK 0 580 => 580
            """);
        ask(promise, name, "the start of the place: the beginning of a shift", """
            hire 2 100 150 => 0
            hire 2 300 320 => 1
            addService 1 20 => 0
            ASK 0 0 => 100
            ASK 0 130 => 130
            ASK 0 131 => 300
            ASK 0 300 => 300
            ASK 0 301 => -1
            """);
        ask(promise, name, "the start of the place: the end of a visit's step", """
            hire 2 0 600 => 0
            addService 1 20 => 0
            addStep 0 -1 30 => 2
            addStep 0 1 10 => 3
            addService 1 30 => 1
            addService 1 31 => 2
            book 0 0 => 0
            ASK 1 0 => 20
            ASK 1 20 => 20
            ASK 1 21 => 60
            ASK 2 0 => 60
            """);
        ask(promise, name, "the start of the place: so that a later step begins at an end", """
            hire 2 0 600 => 0
            addService 1 100 => 0
            addService 1 10 => 1
            addStep 1 -1 120 => 2
            addStep 1 1 10 => 3
            book 0 50 => 0
            ASK 1 0 => 20                          // its last step begins at 150
            ASK 1 40 => 40
            ASK 1 41 => 150
            """);
        ask(promise, name, "the start of the place: at the end of a step behind a rest, too", """
            hire 2 0 600 => 0
            addService 1 10 => 0
            addStep 0 -1 10 => 2
            addStep 0 1 10 => 3
            addStep 0 -1 50 => 4
            addService 1 5 => 1
            addStep 1 -1 35 => 2
            addStep 1 1 5 => 3
            book 0 100 => 0                        // 100 to 110 and 120 to 130
            ASK 1 75 => 75                         // its last step ends at 120
            ASK 1 76 => 90                         // its last step begins at 130
            """);
        ask(promise, name, "the start of the place: the end of a visit, where a chair is free", """
            hire 2 0 600 => 0
            hire 2 0 600 => 1
            hire 2 0 600 => 2
            hire 2 0 600 => 3
            hire 2 0 600 => 4
            addService 1 10 => 0
            addStep 0 -1 50 => 2
            addService 1 10 => 1
            bookWith 0 0 0 => 0
            bookWith 0 1 5 => 1
            bookWith 0 2 10 => 2
            bookWith 0 3 15 => 3
            ASK 1 0 => 0
            ASK 1 5 => 5
            ASK 1 6 => 60                          // its member was free before
            ASK 1 60 => 60
            drop 0 => 0
            ASK 1 6 => 6
            """);
        ask(promise, name, "the start of the place: what was dropped or moved is no bar", ONE_SERVICE + """
            book 0 0 => 0
            book 0 20 => 1
            ASK 0 0 => 40
            drop 0 => 0
            ASK 0 0 => 0
            ASK 0 1 => 40
            move 1 300 => 300
            ASK 0 1 => 1
            ASK 0 281 => 320
            """);
    }

    private static void noEarliest(String promise, String name) {
        ask(promise, name, "NONE if there is none: nobody is there", """
            addService 1 20 => 0
            ASK 0 0 => -1
            """);
        ask(promise, name, "NONE if there is none: nobody has the skills", """
            hire 13 0 600 => 0
            addService 1 20 => 0
            ASK 0 0 => -1
            """);
        ask(promise, name, "NONE if there is none: behind the last start of the day", ONE_SERVICE + """
            ASK 0 580 => 580
            ASK 0 581 => -1
            ASK 0 599 => -1
            """);
        ask(promise, name, "NONE if there is none: the service is longer than the day", """
            hire 2 0 600 => 0
            addService 1 200 => 0
            addStep 0 -1 200 => 2
            addStep 0 -1 200 => 3
            ASK 0 0 => 0
            ASK 0 1 => -1
            addStep 0 -1 1 => 4
            ASK 0 0 => -1
            addStep 0 -1 200 => 5
            ASK 0 0 => -1
            ASK 0 599 => -1
            """);
        ask(promise, name, "NONE if there is none: the day is full", ONE_SERVICE
            + Script.counting("book 0 0", 0, 29) + """
            ASK 0 0 => -1
            ASK 0 580 => -1
            """);
        ask(promise, name, "NONE if there is none: one visit in the middle leaves too little", """
            hire 2 0 41 => 0
            addService 1 21 => 0
            addService 1 1 => 1
            book 1 20 => 0
            ASK 0 0 => -1
            move 0 19 => 19
            ASK 0 0 => 20
            """);
    }

    private static void bothWaysAreTheSame() {
        String busy = """
            hire 15 0 600 => 0
            hire 3 60 300 => 1
            hire 14 33 599 => 2
            addUsual 0 => 0
            addUsual 1 => 1
            addUsual 2 => 2
            addService 1 7 => 3
            addStep 3 -1 3 => 2
            addStep 3 2 5 => 3
            addStep 3 -1 11 => 4
            book 1 0 => 0
            book 0 90 => 0
            book 2 30 => 0
            book 3 200 => 0
            book 1 150 => 0
            book 0 300 => 0
            book 3 0 => 0
            book 2 400 => 0
            book 1 480 => 0
            drop 3 => 0
            move 0 120 => 0
            """;
        int differ = 0;
        for (int from = 0; from < 600; from += 50) {
            SalonBook x = Script.object(busy);
            for (int minute = from; minute < from + 50; minute++) {
                for (int service = 0; service < 4; service++) {
                    differ += x.earliest(service, minute) == x.earliestByScan(service, minute) ? 0 : 1;
                }
            }
        }
        Script.check("25: returns the same, from every minute", differ == 0, differ + " differ");
    }

    private static void staffForArguments() {
        Script.run("26: IndexOutOfBoundsException if there is no such service", """
            hire 2 0 600 => 0
            staffFor 0 0 => IndexOutOfBounds
            addService 1 20 => 0
            staffFor 0 0 => 0
            staffFor 1 0 => IndexOutOfBounds
            staffFor -1 0 => IndexOutOfBounds
            staffFor MAX 0 => IndexOutOfBounds
            staffFor MIN 0 => IndexOutOfBounds
            """);
        Script.run("26: the last service that there can be", "hire 15 0 600 => 0\n"
            + Script.counting("addUsual 3", 0, 7) + """
            staffFor 8 0 => IndexOutOfBounds
            staffFor 7 0 => 0
            """);
        Script.run("26: from, 0 to 599: too small", ONE_SERVICE + """
            staffFor 0 -1 => IndexOutOfBounds
            staffFor 0 MIN => IndexOutOfBounds
            """);
        Script.run("26: from, 0 to 599: the least and the greatest", """
            hire 2 0 1 => 0
            hire 2 599 600 => 1
            addService 1 1 => 0
            staffFor 0 0 => 0
            staffFor 0 599 => 1
            """);
        Script.run("26: from, 0 to 599: too large", ONE_SERVICE + """
            staffFor 0 600 => IndexOutOfBounds
            staffFor 0 MAX => IndexOutOfBounds
            """);
    }

    private static void staffFor() {
        Script.run("26: who would get a service at its place: which may be later than the minute", """
            hire 2 0 100 => 0
            hire 2 200 300 => 1
            addService 1 20 => 0
            staffFor 0 80 => 0
            staffFor 0 81 => 1
            staffFor 0 200 => 1
            """);
        Script.run("26: who would get a service: the one with the least load", """
            hire 2 0 600 => 0
            hire 2 0 600 => 1
            addService 1 20 => 0
            addService 1 19 => 1
            bookWith 0 0 0 => 0
            bookWith 1 1 0 => 1
            staffFor 0 300 => 1
            bookWith 1 1 100 => 2
            staffFor 0 300 => 0
            """);
        Script.run("26: who would get a service: of several the one with the lowest number", """
            hire 1 0 600 => 0
            hire 2 0 600 => 1
            hire 2 0 600 => 2
            addService 1 20 => 0
            staffFor 0 0 => 1
            bookWith 0 1 0 => 0
            bookWith 0 2 100 => 1
            staffFor 0 300 => 1
            """);
        Script.run("26: who would get a service: the last of five", """
            hire 1 0 600 => 0
            hire 1 0 600 => 1
            hire 1 0 600 => 2
            hire 1 0 600 => 3
            hire 2 0 600 => 4
            addService 1 20 => 0
            staffFor 0 0 => 4
            """);
        Script.run("26: NONE if there is no place", """
            addService 1 20 => 0
            staffFor 0 0 => -1
            hire 2 0 100 => 0
            staffFor 0 80 => 0
            staffFor 0 81 => -1
            staffFor 0 599 => -1
            addService 2 10 => 1
            staffFor 1 0 => -1
            """);
        Script.run("26: NONE if there is no place: somebody is free, but no chair", """
            hire 2 0 20 => 0
            hire 2 0 20 => 1
            hire 2 0 20 => 2
            hire 2 0 20 => 3
            hire 2 0 20 => 4
            addService 1 20 => 0
            book 0 0 => 0
            book 0 0 => 1
            book 0 0 => 2
            staffFor 0 0 => 3
            book 0 0 => 3
            staffFor 0 0 => -1
            """);
    }

    private static void inRestArguments() {
        Script.run("27: IndexOutOfBoundsException if there is no such visit", """
            hire 15 0 600 => 0
            addUsual 1 => 0
            addUsual 3 => 1
            inRest 0 1 => IndexOutOfBounds
            book 0 0 => 0
            inRest 0 1 => 40
            inRest 1 1 => IndexOutOfBounds
            inRest -1 1 => IndexOutOfBounds
            inRest MAX 1 => IndexOutOfBounds
            inRest MIN 1 => IndexOutOfBounds
            """);
        Script.run("27: the last visit that there can be", """
            hire 15 0 600 => 0
            addService 1 10 => 0
            addStep 0 -1 10 => 2
            """ + Script.counting("book 0 0", 0, 29) + """
            addService 1 10 => 1
            startOf 29 => 290                      // each begins in the rest of the one before
            inRest 29 1 => 300
            inRest 30 1 => IndexOutOfBounds
            """);
        Script.run("27: IndexOutOfBoundsException if there is no such service", """
            hire 15 0 600 => 0
            addUsual 1 => 0
            book 0 0 => 0
            inRest 0 0 => -1
            inRest 0 1 => IndexOutOfBounds
            inRest 0 -1 => IndexOutOfBounds
            inRest 0 MAX => IndexOutOfBounds
            inRest 0 MIN => IndexOutOfBounds
            """);
        Script.run("27: the last service that there can be", "hire 15 0 600 => 0\n"
            + "addUsual 1 => 0\n" + Script.counting("addUsual 3", 1, 7) + """
            book 0 0 => 0
            inRest 0 7 => 40
            inRest 0 8 => IndexOutOfBounds
            """);
        Script.run("27: IndexOutOfBoundsException if the visit was dropped", """
            hire 15 0 600 => 0
            addUsual 1 => 0
            addUsual 3 => 1
            book 0 0 => 0
            drop 0 => 0
            inRest 0 1 => IndexOutOfBounds
            """);
        Script.run("27: 30 visits are no bar to the question", """
            hire 15 0 600 => 0
            addService 1 5 => 0
            addStep 0 -1 10 => 2
            addService 1 10 => 1
            """ + Script.counting("book 0 0", 0, 29) + """
            inRest 29 1 => 150
            """);
    }

    private static void inRestWithinOneStep() {
        Script.run("27: lies wholly within one step: it may be as long as the rest", """
            hire 15 0 600 => 0
            addService 1 10 => 0
            addStep 0 -1 20 => 2
            addStep 0 1 10 => 3
            addService 1 20 => 1
            addService 1 21 => 2
            book 0 100 => 0
            inRest 0 1 => 110
            inRest 0 2 => -1
            """);
        Script.run("27: lies wholly within one step: a rest at the end of the visit", """
            hire 15 0 600 => 0
            addService 1 10 => 0
            addStep 0 -1 20 => 2
            addService 1 20 => 1
            addService 1 21 => 2
            book 0 100 => 0
            inRest 0 1 => 110
            inRest 0 2 => -1                       // though they are free behind it
            """);
        Script.run("27: lies wholly within one step: not in two rests that follow one another", """
            hire 15 0 600 => 0
            addService 1 10 => 0
            addStep 0 -1 20 => 2
            addStep 0 -1 25 => 3
            addService 1 20 => 1
            addService 1 25 => 2
            addService 1 26 => 3
            book 0 100 => 0
            inRest 0 1 => 110
            inRest 0 2 => 130
            inRest 0 3 => -1
            """);
        Script.run("27: lies wholly within one step: its own rests, too", """
            hire 15 0 600 => 0
            addService 1 10 => 0
            addStep 0 -1 20 => 2
            addService 1 10 => 1
            addStep 1 -1 10 => 2
            addService 1 10 => 2
            addStep 2 -1 11 => 2
            book 0 100 => 0
            inRest 0 1 => 110
            inRest 0 2 => -1
            """);
        Script.run("27: a step of a visit that is a rest: a visit without one", """
            hire 15 0 600 => 0
            addUsual 0 => 0
            addService 1 1 => 1
            book 0 100 => 0
            inRest 0 1 => -1
            """);
        Script.run("27: a step of a visit that is a rest: another visit's rest is none", """
            hire 15 0 600 => 0
            addUsual 1 => 0
            addUsual 3 => 1
            addService 1 5 => 2
            book 0 0 => 0
            bookWith 1 0 40 => 1
            inRest 1 2 => -1
            inRest 0 2 => 60
            """);
        Script.run("27: a step of a visit that is a rest: at the end of the day", """
            hire 15 0 600 => 0
            addService 1 10 => 0
            addStep 0 -1 20 => 2
            addService 1 20 => 1
            addService 1 1 => 2
            book 0 570 => 0
            inRest 0 1 => 580
            bookWith 1 0 580 => 1
            inRest 0 2 => -1
            """);
    }

    private static void inRestStaff() {
        Script.run("27: the member of staff of that visit can take it: all the skills", """
            hire 2 0 600 => 0
            hire 15 0 600 => 1
            addService 1 10 => 0
            addStep 0 -1 20 => 2
            addService 2 10 => 1
            addService 1 10 => 2
            bookWith 0 0 100 => 0
            inRest 0 1 => -1                       // another one could
            inRest 0 2 => 110
            """);
        Script.run("27: the member of staff of that visit: the last of five", """
            hire 2 0 600 => 0
            hire 2 0 600 => 1
            hire 2 0 600 => 2
            hire 2 0 600 => 3
            hire 2 0 600 => 4
            addService 1 10 => 0
            addStep 0 -1 20 => 2
            addService 1 10 => 1
            bookWith 0 4 100 => 0
            bookWith 0 3 105 => 1
            bookWith 1 0 110 => 2
            inRest 0 1 => 110
            inRest 1 1 => 115
            bookWith 1 4 110 => 3
            inRest 0 1 => 120
            """);
        Script.run("27: the member of staff of that visit can take it: not while they are taken", """
            hire 15 0 600 => 0
            hire 15 0 600 => 1
            addService 1 10 => 0
            addStep 0 -1 20 => 2
            addService 1 10 => 1
            addService 1 11 => 2
            addService 1 1 => 3
            bookWith 0 0 100 => 0
            bookWith 1 0 110 => 1
            inRest 0 1 => 120
            inRest 0 2 => -1
            bookWith 1 0 120 => 2
            inRest 0 3 => -1
            move 1 0 => 0
            inRest 0 1 => 110
            """);
        Script.run("27: the member of staff of that visit can take it: its rests need nobody", """
            hire 15 0 600 => 0
            addService 1 10 => 0
            addStep 0 -1 30 => 2
            addService 1 10 => 1
            addStep 1 -1 10 => 2
            addStep 1 1 10 => 3
            addService 1 10 => 2
            bookWith 0 0 100 => 0
            bookWith 2 0 120 => 1
            inRest 0 1 => 110
            """);
    }

    private static void inRestChair() {
        String threeChairs = """
            hire 2 0 600 => 0
            hire 2 0 600 => 1
            hire 2 0 600 => 2
            hire 2 0 600 => 3
            addService 1 10 => 0
            addStep 0 -1 20 => 2
            addService 1 20 => 1
            addService 1 10 => 2
            addService 1 11 => 3
            bookWith 0 0 100 => 0
            bookWith 1 1 110 => 1
            bookWith 1 2 110 => 2
            """;
        Script.run("27: and some chair can take it: the last one", threeChairs + """
            inRest 0 1 => 110
            """);
        Script.run("27: and some chair can take it: none is free", threeChairs + """
            bookWith 1 3 110 => 3
            inRest 0 2 => -1
            """);
        Script.run("27: and some chair can take it: one is free when a visit ends", threeChairs + """
            bookWith 1 3 100 => 3
            inRest 0 2 => 120
            inRest 0 3 => -1
            """);
    }

    private static void inRestStarts() {
        Script.run("27: the least start: the first rest of several that takes it", """
            hire 15 0 600 => 0
            addService 1 10 => 0
            addStep 0 -1 10 => 2
            addStep 0 1 10 => 3
            addStep 0 -1 20 => 4
            addStep 0 1 10 => 5
            addService 1 10 => 1
            addService 1 11 => 2
            addService 1 20 => 3
            book 0 100 => 0
            inRest 0 1 => 110
            inRest 0 2 => 130
            inRest 0 3 => 130
            bookWith 1 0 110 => 1
            inRest 0 1 => 130
            bookWith 1 0 130 => 2
            inRest 0 1 => 140
            """);
        Script.run("27: the least start: at minutes of the visit, where it was moved to", """
            hire 15 0 600 => 0
            addUsual 2 => 0
            addUsual 3 => 1
            book 0 0 => 0
            inRest 0 1 => 15
            move 0 555 => 555
            inRest 0 1 => 570
            """);
        Script.run("27: NONE if there is none: the service is longer than the day", """
            hire 15 0 600 => 0
            addUsual 1 => 0
            addService 1 200 => 1
            addStep 1 1 200 => 2
            addStep 1 1 200 => 3
            addStep 1 1 200 => 4
            book 0 0 => 0
            inRest 0 1 => -1
            """);
    }

    private static void fillArguments() {
        Script.run("28: minutes, 0 to 600: too small", """
            fill -1 => IllegalArgument
            addUsual 3 => 0
            fill -1 => IllegalArgument
            fill MIN => IllegalArgument
            """);
        Script.run("28: minutes, 0 to 600: the least", """
            fill 0 => 0
            addService 1 1 => 0
            fill 0 => 0
            fill 1 => 1
            """);
        Script.run("28: minutes, 0 to 600: the greatest", """
            fill 600 => 0
            addService 1 200 => 0
            addStep 0 1 200 => 2
            addStep 0 1 200 => 3
            fill 599 => 0
            fill 600 => 1
            addStep 0 1 1 => 4
            fill 600 => 0
            """);
        Script.run("28: minutes, 0 to 600: too large", """
            fill 601 => IllegalArgument
            addUsual 3 => 0
            fill 601 => IllegalArgument
            fill MAX => IllegalArgument
            """);
    }

    private static void fill() {
        Script.run("28: lengths together not above the minutes: equal is not above", """
            addService 1 30 => 0
            addService 1 50 => 1
            fill 29 => 0
            fill 30 => 1
            fill 49 => 1
            fill 50 => 2
            fill 79 => 2
            fill 80 => 3
            fill 81 => 3
            """);
        Script.run("28: lengths: rests are part of them", """
            addService 1 30 => 0
            addStep 0 -1 50 => 2
            fill 79 => 0
            fill 80 => 1
            """);
        Script.run("28: the services, each of them once at most", """
            addService 1 10 => 0
            fill 10 => 1
            fill 20 => 1
            fill 600 => 1
            """);
        Script.run("28: one with the greatest sum", """
            addService 1 60 => 0
            addService 1 50 => 1
            addService 1 45 => 2
            fill 95 => 6                           // 95, where 60 alone leaves 35
            fill 94 => 1
            fill 109 => 5
            fill 110 => 3
            fill 154 => 3
            fill 155 => 7
            """);
        Script.run("28: one with the greatest sum: by one minute", """
            addService 1 10 => 0
            addService 1 11 => 1
            addService 1 12 => 2
            fill 10 => 1
            fill 11 => 2
            fill 12 => 4
            fill 21 => 3
            fill 22 => 5
            fill 23 => 6
            """);
        Script.run("28: the set: bit k for the service k: none without services", """
            fill 0 => 0
            fill 1 => 0
            fill 600 => 0
            """);
        Script.run("28: the set: bit k for the service k: all eight", """
            addService 1 10 => 0
            addService 1 20 => 1
            addService 1 40 => 2
            addService 1 80 => 3
            addService 1 160 => 4
            addService 1 8 => 5
            addService 1 4 => 6
            addService 1 2 => 7
            fill 323 => 127
            fill 324 => 255
            fill 600 => 255
            fill 2 => 128
            fill 3 => 128
            fill 160 => 16
            fill 164 => 80
            fill 10 => 1
            """);
    }

    private static void fillTies() {
        Script.run("28: of several the least one as a number: two services of one length", """
            addService 1 20 => 0
            addService 1 20 => 1
            addService 1 20 => 2
            fill 20 => 1
            fill 40 => 3
            fill 60 => 7
            """);
        Script.run("28: of several the least one as a number: more services, lower bits", """
            addService 1 10 => 0
            addService 1 20 => 1
            addService 1 30 => 2
            fill 30 => 3                           // 10 + 20 is 3, 30 alone is 4
            """);
        Script.run("28: of several the least one as a number: fewer services, lower bits", """
            addService 1 30 => 0
            addService 1 10 => 1
            addService 1 20 => 2
            fill 30 => 1                           // 10 + 20 is 6
            """);
    }

    private static void peak() {
        Script.run("29: 0 without visits", """
            peak => 0
            hire 2 0 600 => 0
            addService 1 20 => 0
            request 0 0 => 1
            peak => 0
            """);
        Script.run("29: 0 without visits: when all were dropped", ONE_SERVICE + """
            book 0 100 => 0
            peak => 100
            drop 0 => 0
            peak => 0
            """);
        Script.run("29: the first minute: of one visit, of two that are apart, of two that touch", ONE_SERVICE + """
            book 0 300 => 0
            peak => 300
            book 0 100 => 1
            peak => 100
            book 0 80 => 2
            peak => 80
            """);
        Script.run("29: the first minute: it may be the first of the day", ONE_SERVICE + """
            book 0 0 => 0
            book 0 580 => 1
            peak => 0
            """);
        Script.run("29: the first minute: it may be the last of the day", """
            hire 2 0 600 => 0
            hire 2 0 600 => 1
            addService 1 1 => 0
            addService 1 20 => 1
            book 1 580 => 0
            book 0 599 => 1
            peak => 599
            book 0 0 => 2
            peak => 599
            """);
        Script.run("29: in which the most chairs are taken", """
            hire 2 0 600 => 0
            hire 2 0 600 => 1
            hire 2 0 600 => 2
            hire 2 0 600 => 3
            addService 1 100 => 0
            bookWith 0 0 0 => 0
            peak => 0
            bookWith 0 1 50 => 1
            peak => 50
            bookWith 0 2 99 => 2                   // one minute of three
            peak => 99
            bookWith 0 3 100 => 3                  // 0 ends there: three again
            peak => 99
            drop 3 => 0
            bookWith 0 3 99 => 4
            peak => 99
            drop 0 => 0
            peak => 99
            drop 4 => 0
            peak => 99
            drop 2 => 0
            peak => 50
            """);
        Script.run("29: chairs are taken in rests, too", """
            hire 2 0 600 => 0
            addService 1 10 => 0
            addStep 0 -1 50 => 2
            addService 1 10 => 1
            bookWith 0 0 100 => 0
            bookWith 1 0 0 => 1
            bookWith 1 0 130 => 2
            peak => 130
            """);
        Script.run("29: the first minute: all four chairs", """
            hire 2 0 600 => 0
            hire 2 0 600 => 1
            hire 2 0 600 => 2
            hire 2 0 600 => 3
            hire 2 0 600 => 4
            addService 1 100 => 0
            addService 1 10 => 1
            bookWith 1 0 0 => 0
            bookWith 1 1 0 => 1
            bookWith 1 2 0 => 2
            bookWith 0 0 200 => 3
            bookWith 0 1 210 => 4
            bookWith 0 2 220 => 5
            bookWith 0 3 230 => 6
            peak => 230
            drop 3 => 0
            peak => 0
            """);
    }
}
