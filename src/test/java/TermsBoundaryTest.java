/**
 * The sentences of the document's terms that name a boundary, one run for each. A title is the
 * sentence. The runs use one skill where skills do not matter: 1 is CUT, 15 all four as a set.
 */
public final class TermsBoundaryTest {
    public static void main(String[] args) {
        theFiveHundredAndTwelfthCall();
        nothingInTwoPlaces();
        questions();
        day();
        chairsAndSkills();
        staffAndServices();
        lengthAndWork();
        usualServices();
        visits();
        whatAVisitTakes();
        skillsOfStaff();
        shiftOfStaff();
        stepsOfStaff();
        chairs();
        loads();
        placeStart();
        placeStaffAndChair();
        requests();
        servingInOrder();
        servingUpToTheLatestStart();
        servingUpToThirtyVisits();
        exceptions();
        constants();
        Script.end();
    }

    private static void theFiveHundredAndTwelfthCall() {
        Script.run("an object is used for at most 512 calls: 510 refused ones are no bar to the last two",
            "hire 0 0 600 => IllegalArgument\n".repeat(255)
            + "drop 0 => IndexOutOfBounds\n".repeat(255)
            + """
            hire 15 0 600 => 0
            addService 1 20 => 0
            """);
        Script.run("an object is used for at most 512 calls: 508 questions are no bar to the last",
            """
            hire 15 0 600 => 0
            addService 1 20 => 0
            """
            + "earliest 0 581 => -1\n".repeat(508)
            + """
            book 0 580 => 0
            startOf 0 => 580
            """);
        Script.run("an object is used for at most 512 calls: and each may be a change",
            """
            hire 15 0 600 => 0
            addUsual 1 => 0
            book 0 0 => 0
            """
            + "move 0 300 => 300\nmove 0 100 => 100\n".repeat(254)
            + """
            staffAt 0 179 => 0
            """);
    }

    /** No two visits of a full book share a chair's minute or a member's minute. */
    private static void nothingInTwoPlaces() {
        String setup = """
            hire 15 0 600 => 0
            hire 15 30 500 => 1
            hire 6 10 400 => 2
            hire 15 100 600 => 3
            hire 15 0 200 => 4
            addUsual 0 => 0
            addUsual 1 => 1
            addUsual 2 => 2
            addUsual 3 => 3
            """;
        StringBuilder calls = new StringBuilder(setup);
        for (int i = 0; i < 30; i++) {
            calls.append("book ").append(i % 4).append(' ').append(i * 7 % 50).append(" => 0\n");
        }
        SalonBook x = Script.object(calls.toString());
        int[][] works = {{0, 40}, {0, 40, 75, 115}, {0, 15, 35, 45}, {0, 20}};
        boolean staffOnce = x.visits() == 30;
        boolean chairsOnce = x.visits() == 30;
        int[][] staff = new int[5][600];
        int[][] chairs = new int[4][600];
        for (int visit = 0; visit < x.visits(); visit++) {
            int service = x.serviceOf(visit);
            int start = x.startOf(visit);
            int[] spans = works[service];
            for (int k = 0; k < spans.length; k += 2) {
                staffOnce &= takesOnce(staff[x.staffOf(visit)], start + spans[k], start + spans[k + 1]);
            }
            chairsOnce &= takesOnce(chairs[x.chairOf(visit)], start, start + spans[spans.length - 1]);
        }
        Script.check("no chair is in two places at a time", chairsOnce, "a chair is");
        Script.check("no member of staff is in two places at a time", staffOnce, "one is");
    }

    private static boolean takesOnce(int[] minutes, int from, int to) {
        boolean once = true;
        for (int minute = from; minute < to; minute++) {
            minutes[minute]++;
            once &= minutes[minute] == 1;
        }
        return once;
    }

    private static void questions() {
        Script.run("a question changes nothing", """
            hire 15 0 600 => 0
            hire 15 0 600 => 1
            addUsual 2 => 0
            addService 1 20 => 1
            addService 1 10 => 2
            book 0 100 => 0
            request 1 599 => 1                     // has its place at 0
            requests => 1
            requestAt 0 => 1
            lengthOf 0 => 45
            workOf 0 => 25
            skillsOf 0 => 9
            visits => 1
            startOf 0 => 100
            staffOf 0 => 0
            chairOf 0 => 0
            serviceOf 0 => 0
            loadOf 0 => 25
            staffAt 0 100 => 0
            chairAt 0 100 => 0
            earliest 2 0 => 0
            earliestByScan 2 0 => 0
            staffFor 2 0 => 1
            inRest 0 2 => 115
            fill 600 => 7
            peak => 100
            requests => 1
            visits => 1
            addStep 2 1 10 => 2                    // no question is a booking of it
            """);
    }

    private static void day() {
        Script.run("the day has the minutes 0 to 599: the first and the last can be taken", """
            hire 15 0 600 => 0
            addService 1 1 => 0
            book 0 0 => 0
            book 0 599 => 1
            startOf 0 => 0
            startOf 1 => 599
            staffAt 0 0 => 0
            chairAt 0 0 => 0
            staffAt 0 599 => 1
            chairAt 0 599 => 1
            """);
        Script.run("the day has the minutes 0 to 599: there is none ahead of it and none behind", """
            hire 15 0 600 => 0
            addService 1 1 => 0
            book 0 -1 => IndexOutOfBounds
            book 0 600 => IndexOutOfBounds
            staffAt 0 -1 => IndexOutOfBounds
            staffAt 0 600 => IndexOutOfBounds
            chairAt 0 -1 => IndexOutOfBounds
            chairAt 0 600 => IndexOutOfBounds
            """);
        Script.run("the day has the minutes 0 to 599: all of them can be taken by one visit", """
            hire 15 0 600 => 0
            addService 1 200 => 0
            addStep 0 1 200 => 2
            addStep 0 1 200 => 3
            book 0 0 => 0
            staffAt 0 0 => 0
            staffAt 0 299 => 0
            staffAt 0 599 => 0
            chairAt 0 0 => 0
            chairAt 0 599 => 0
            addService 1 1 => 1
            earliest 1 0 => -1
            """);
        Script.run("a span from a minute a to a minute b has the minutes a to b - 1", """
            hire 15 0 600 => 0
            addService 1 30 => 0
            book 0 10 => 0
            staffAt 0 9 => -1
            staffAt 0 10 => 0
            staffAt 0 39 => 0
            staffAt 0 40 => -1
            """);
    }

    private static void chairsAndSkills() {
        Script.run("there are 4 chairs, 0 to 3", """
            hire 15 0 600 => 0
            hire 15 0 600 => 1
            hire 15 0 600 => 2
            hire 15 0 600 => 3
            hire 15 0 600 => 4
            addService 1 100 => 0
            book 0 0 => 0
            book 0 0 => 1
            book 0 0 => 2
            book 0 0 => 3
            chairOf 0 => 0
            chairOf 1 => 1
            chairOf 2 => 2
            chairOf 3 => 3
            startOf 3 => 0
            chairAt 3 0 => 3
            chairAt 4 0 => IndexOutOfBounds
            earliest 0 0 => 100                    // member 4 is free, no chair is
            """);
        Script.run("there are 4 skills: bit k for the skill k", """
            hire 1 0 600 => 0
            hire 2 0 600 => 1
            hire 4 0 600 => 2
            hire 8 0 600 => 3
            addService 0 10 => 0
            addService 1 10 => 1
            addService 2 10 => 2
            addService 3 10 => 3
            skillsOf 0 => 1
            skillsOf 1 => 2
            skillsOf 2 => 4
            skillsOf 3 => 8
            staffFor 0 0 => 0
            staffFor 1 0 => 1
            staffFor 2 0 => 2
            staffFor 3 0 => 3
            """);
        Script.run("there are 4 skills: none below 0 and none above 3", """
            addService -1 10 => IllegalArgument
            addService 4 10 => IllegalArgument
            addService 0 10 => 0
            addStep 0 -2 10 => IllegalArgument
            addStep 0 4 10 => IllegalArgument
            hire 16 0 600 => IllegalArgument
            """);
    }

    private static void staffAndServices() {
        Script.run("there are at most 5 members of staff, numbered from 0", """
            loadOf 0 => IndexOutOfBounds
            hire 1 0 600 => 0
            loadOf 0 => 0
            loadOf 1 => IndexOutOfBounds
            hire 1 0 600 => 1
            hire 1 0 600 => 2
            hire 1 0 600 => 3
            hire 1 0 600 => 4
            hire 1 0 600 => IllegalState
            loadOf 4 => 0
            loadOf 5 => IndexOutOfBounds
            """);
        Script.run("there are at most 8 services, numbered from 0", """
            lengthOf 0 => IndexOutOfBounds
            addService 1 1 => 0
            lengthOf 0 => 1
            lengthOf 1 => IndexOutOfBounds
            addService 1 2 => 1
            addService 1 3 => 2
            addService 1 4 => 3
            addService 1 5 => 4
            addService 1 6 => 5
            addService 1 7 => 6
            addService 1 8 => 7
            addService 1 9 => IllegalState
            addUsual 0 => IllegalState
            lengthOf 7 => 8
            lengthOf 8 => IndexOutOfBounds
            """);
        Script.run("a service is a row of steps, up to 5", """
            hire 15 0 600 => 0
            addService 1 10 => 0
            addStep 0 -1 10 => 2
            addStep 0 1 10 => 3
            addStep 0 -1 10 => 4
            addStep 0 1 10 => 5
            addStep 0 1 10 => IllegalState
            addStep 0 -1 10 => IllegalState
            lengthOf 0 => 50
            book 0 0 => 0
            staffAt 0 19 => -1
            staffAt 0 29 => 0
            staffAt 0 39 => -1
            staffAt 0 49 => 0
            chairAt 0 49 => 0
            chairAt 0 50 => -1
            """);
        Script.run("each step either asks for a skill or is a rest", """
            hire 2 0 600 => 0
            addService 1 10 => 0
            addStep 0 -1 10 => 2
            skillsOf 0 => 2
            staffFor 0 0 => 0                      // a rest asks for nothing
            addStep 0 0 10 => 3
            skillsOf 0 => 3
            staffFor 0 0 => -1
            """);
    }

    private static void lengthAndWork() {
        Script.run("its length is the sum of the minutes of its steps", """
            addService 1 200 => 0
            lengthOf 0 => 200
            addStep 0 -1 200 => 2
            lengthOf 0 => 400
            addStep 0 1 200 => 3
            addStep 0 -1 200 => 4
            addStep 0 1 200 => 5
            lengthOf 0 => 1000                     // longer than the day
            addService 1 1 => 1
            lengthOf 1 => 1
            """);
        Script.run("its work is the sum of the minutes of those that are no rests", """
            addService 1 1 => 0
            workOf 0 => 1
            addStep 0 -1 200 => 2
            workOf 0 => 1
            addStep 0 0 200 => 3
            workOf 0 => 201
            addStep 0 -1 1 => 4
            addStep 0 1 1 => 5
            workOf 0 => 202
            """);
    }

    private static void usualServices() {
        Script.run("the usual services, 0: WASH 10, CUT 30", """
            hire 15 0 600 => 0
            addUsual 0 => 0
            lengthOf 0 => 40
            workOf 0 => 40
            skillsOf 0 => 3
            addStep 0 -1 1 => 3
            book 0 0 => 0
            staffAt 0 39 => 0
            staffAt 0 40 => -1
            """);
        Script.run("the usual services, 1: COLOUR 40, rest 35, WASH 10, CUT 30", """
            hire 15 0 600 => 0
            addUsual 1 => 0
            lengthOf 0 => 115
            workOf 0 => 80
            skillsOf 0 => 7
            addStep 0 -1 1 => 5
            addStep 0 -1 1 => IllegalState
            book 0 0 => 0
            staffAt 0 0 => 0
            staffAt 0 39 => 0
            staffAt 0 40 => -1
            staffAt 0 74 => -1
            staffAt 0 75 => 0
            staffAt 0 114 => 0
            staffAt 0 115 => -1
            """);
        Script.run("the usual services, 2: CARE 15, rest 20, WASH 10", """
            hire 15 0 600 => 0
            addUsual 2 => 0
            lengthOf 0 => 45
            workOf 0 => 25
            skillsOf 0 => 9
            addStep 0 -1 1 => 4
            book 0 0 => 0
            staffAt 0 14 => 0
            staffAt 0 15 => -1
            staffAt 0 34 => -1
            staffAt 0 35 => 0
            staffAt 0 44 => 0
            staffAt 0 45 => -1
            """);
        Script.run("the usual services, 3: CUT 20", """
            hire 15 0 600 => 0
            addUsual 3 => 0
            lengthOf 0 => 20
            workOf 0 => 20
            skillsOf 0 => 2
            addStep 0 -1 1 => 2
            book 0 0 => 0
            staffAt 0 19 => 0
            staffAt 0 20 => -1
            """);
    }

    private static void visits() {
        Script.run("there are at most 30 visits, numbered from 0",
            "hire 15 0 600 => 0\n"
            + "addService 1 20 => 0\n"
            + Script.counting("book 0 0", 0, 29)
            + """
            startOf 29 => 580
            book 0 0 => IllegalState
            drop 29 => 0
            book 0 0 => IllegalState
            visits => 30
            startOf 30 => IndexOutOfBounds
            """);
        Script.run("in the order in which they are booked", """
            hire 15 0 600 => 0
            addService 1 20 => 0
            book 0 300 => 0
            bookWith 0 0 100 => 1
            request 0 0 => 1
            move 0 500 => 500                      // the request is the third to be booked
            book 0 200 => 3
            startOf 0 => 500
            startOf 1 => 100
            startOf 2 => 0
            startOf 3 => 200
            """);
        Script.run("one that is dropped keeps its number", """
            hire 15 0 600 => 0
            addService 1 20 => 0
            addService 1 30 => 1
            book 0 0 => 0
            book 1 0 => 1
            book 0 0 => 2
            drop 1 => 0
            book 0 0 => 3                          // 1 is not given again
            startOf 3 => 20
            startOf 2 => 50
            startOf 1 => -1
            serviceOf 1 => 1
            chairAt 0 20 => 3
            """);
    }

    private static void whatAVisitTakes() {
        Script.run("its steps follow one another from the start on", """
            hire 15 0 600 => 0
            addService 1 1 => 0
            addStep 0 -1 1 => 2
            addStep 0 1 1 => 3
            addStep 0 1 1 => 4
            book 0 7 => 0
            staffAt 0 6 => -1
            staffAt 0 7 => 0
            staffAt 0 8 => -1
            staffAt 0 9 => 0
            staffAt 0 10 => 0
            staffAt 0 11 => -1
            """);
        Script.run("its end is the start plus the length of the service", """
            hire 15 0 600 => 0
            addService 1 10 => 0
            addStep 0 -1 5 => 2
            book 0 585 => 0
            chairAt 0 584 => -1
            chairAt 0 585 => 0
            chairAt 0 599 => 0
            drop 0 => 0
            book 0 100 => 1
            chairAt 0 114 => 1
            chairAt 0 115 => -1
            """);
        Script.run("it takes the chair from the start to the end", """
            hire 15 0 600 => 0
            addUsual 2 => 0
            book 0 100 => 0
            chairAt 0 99 => -1
            chairAt 0 100 => 0
            chairAt 0 115 => 0                     // in its rest, too
            chairAt 0 134 => 0
            chairAt 0 144 => 0
            chairAt 0 145 => -1
            """);
        Script.run("and the member of staff in all steps that are no rests", """
            hire 15 0 600 => 0
            addService 1 10 => 0
            addStep 0 -1 10 => 2
            addStep 0 0 10 => 3
            addStep 0 -1 10 => 4
            book 0 100 => 0
            staffAt 0 99 => -1
            staffAt 0 100 => 0
            staffAt 0 109 => 0
            staffAt 0 110 => -1
            staffAt 0 119 => -1
            staffAt 0 120 => 0
            staffAt 0 129 => 0
            staffAt 0 130 => -1
            staffAt 0 139 => -1
            chairAt 0 139 => 0
            """);
    }

    private static void skillsOfStaff() {
        Script.run("they have all skills that its steps ask for", """
            hire 14 0 600 => 0                     // no WASH
            hire 13 0 600 => 1                     // no CUT
            hire 11 0 600 => 2                     // no COLOUR
            addUsual 1 => 0                        // WASH, CUT and COLOUR
            staffFor 0 0 => -1
            book 0 0 => NoSuchElement
            bookWith 0 0 0 => NoSuchElement
            bookWith 0 1 0 => NoSuchElement
            bookWith 0 2 0 => NoSuchElement
            hire 7 0 600 => 3                      // these three and no more
            staffFor 0 0 => 3
            bookWith 0 3 0 => 0
            """);
        Script.run("they have all skills that its steps ask for: others are no bar", """
            hire 15 0 600 => 0
            addService 3 10 => 0
            staffFor 0 0 => 0
            book 0 0 => 0
            """);
    }

    private static void shiftOfStaff() {
        Script.run("the whole visit lies within their shift: it may begin with it", """
            hire 15 100 200 => 0
            addService 1 20 => 0
            addService 1 1 => 1
            earliest 0 0 => 100
            earliest 0 99 => 100
            earliest 0 100 => 100
            earliest 1 0 => 100
            book 0 99 => 0
            startOf 0 => 100
            """);
        Script.run("the whole visit lies within their shift: it may end with it", """
            hire 15 100 200 => 0
            addService 1 20 => 0
            earliest 0 180 => 180
            earliest 0 181 => -1
            book 0 181 => NoSuchElement
            book 0 180 => 0
            startOf 0 => 180
            """);
        Script.run("the whole visit lies within their shift: its rests, too", """
            hire 15 100 200 => 0
            addService 1 10 => 0
            addStep 0 -1 30 => 2
            earliest 0 160 => 160
            earliest 0 161 => -1
            """);
        Script.run("the whole visit lies within their shift: it may be all of it", """
            hire 15 100 130 => 0
            addService 1 30 => 0
            addService 1 31 => 1
            earliest 1 0 => -1
            earliest 0 0 => 100
            earliest 0 101 => -1
            """);
    }

    private static void stepsOfStaff() {
        Script.run("none of its steps has a minute in which they are taken: right behind and ahead is free", """
            hire 15 0 600 => 0
            addService 1 20 => 0
            book 0 100 => 0
            earliest 0 80 => 80
            earliest 0 81 => 120
            earliest 0 119 => 120
            earliest 0 120 => 120
            """);
        Script.run("none of its steps but rests: its rests may lie on another visit's work", """
            hire 15 0 600 => 0
            addService 1 20 => 0
            addService 0 10 => 1
            addStep 1 -1 20 => 2
            addStep 1 0 10 => 3
            book 0 10 => 0                         // 10 to 30 is the other one's rest
            book 1 0 => 1
            startOf 1 => 0
            staffAt 0 9 => 1
            staffAt 0 10 => 0
            staffAt 0 29 => 0
            staffAt 0 30 => 1
            """);
        Script.run("none of its steps but rests: its work may lie in another visit's rest", """
            hire 15 0 600 => 0
            addService 0 10 => 0
            addStep 0 -1 20 => 2
            addStep 0 0 10 => 3
            addService 1 20 => 1
            addService 1 21 => 2
            book 0 0 => 0
            earliest 1 0 => 10
            earliest 1 11 => 40
            earliest 2 0 => 40                     // one minute too long for the rest
            """);
        Script.run("none of its steps but rests: each of its steps is looked at", """
            hire 15 0 600 => 0
            addService 1 10 => 0
            addStep 0 -1 10 => 2
            addStep 0 1 10 => 3
            addStep 0 -1 10 => 4
            addStep 0 1 10 => 5
            addService 1 1 => 1
            book 1 200 => 0                        // its first minute
            earliest 0 200 => 201
            move 0 209 => 209                      // the last one of its first step
            earliest 0 200 => 210
            move 0 210 => 210                      // a rest
            earliest 0 200 => 200
            move 0 219 => 219
            earliest 0 200 => 200
            move 0 220 => 220
            earliest 0 200 => 201
            move 0 229 => 229
            earliest 0 200 => 210
            move 0 230 => 230
            earliest 0 200 => 200
            move 0 239 => 239
            earliest 0 200 => 200
            move 0 240 => 240
            earliest 0 200 => 201
            move 0 249 => 249                      // its last minute
            earliest 0 200 => 210
            move 0 250 => 250
            earliest 0 200 => 200
            """);
        Script.run("taken by another visit: another member's visits are no bar", """
            hire 15 0 600 => 0
            hire 15 0 600 => 1
            addService 1 20 => 0
            bookWith 0 0 0 => 0
            earliest 0 0 => 0
            bookWith 0 1 0 => 1
            startOf 1 => 0
            """);
    }

    private static void chairs() {
        String full = """
            hire 15 0 600 => 0
            hire 15 0 600 => 1
            hire 15 0 600 => 2
            hire 15 0 600 => 3
            hire 15 0 600 => 4
            addService 1 100 => 0
            addService 1 20 => 1
            addService 1 1 => 2
            addStep 2 -1 19 => 2
            addService 1 5 => 3
            addStep 3 -1 95 => 2
            bookWith 0 0 100 => 0
            bookWith 0 1 100 => 1
            bookWith 0 2 100 => 2
            bookWith 3 3 100 => 3
            """;
        Script.run("no minute of the visit is one in which the chair is taken", full + """
            earliest 1 80 => 80                    // right ahead
            earliest 1 81 => 200                   // one minute of it is taken
            earliest 1 199 => 200
            earliest 1 200 => 200                  // right behind
            """);
        Script.run("no minute of the visit: a rest takes the chair from others", full + """
            staffAt 3 105 => -1
            chairAt 3 105 => 3
            earliest 1 105 => 200
            """);
        Script.run("no minute of the visit: the minutes of its own rests, too", full + """
            earliest 2 80 => 80
            earliest 2 81 => 200
            """);
    }

    private static void loads() {
        Script.run("the load is the sum of the works of the services of their visits", """
            hire 15 0 600 => 0
            addUsual 1 => 0
            addService 1 1 => 1
            loadOf 0 => 0
            book 0 0 => 0
            loadOf 0 => 80                         // rests are no load
            book 1 0 => 1
            loadOf 0 => 81
            drop 0 => 0
            loadOf 0 => 1
            drop 1 => 0
            loadOf 0 => 0
            """);
    }

    private static void placeStart() {
        Script.run("the place is the least start, that minute or later", """
            hire 15 0 600 => 0
            addService 1 20 => 0
            book 0 100 => 0
            earliest 0 0 => 0
            earliest 0 1 => 1
            earliest 0 79 => 79
            earliest 0 80 => 80
            earliest 0 81 => 120
            earliest 0 120 => 120
            earliest 0 121 => 121
            """);
        Script.run("at which some member of staff and some chair can take it", """
            addService 1 20 => 0
            earliest 0 0 => -1                     // four chairs and nobody
            hire 1 0 600 => 0
            earliest 0 0 => -1                     // somebody who can't
            hire 2 50 70 => 1
            earliest 0 0 => 50
            hire 2 40 59 => 2
            earliest 0 0 => 50                     // 19 minutes are not enough
            hire 2 40 60 => 3
            earliest 0 0 => 40
            """);
        Script.run("and the visit ends by minute 600", """
            hire 15 0 600 => 0
            addService 1 20 => 0
            addService 1 1 => 1
            earliest 0 580 => 580
            earliest 0 581 => -1
            earliest 0 599 => -1
            earliest 1 599 => 599
            """);
        Script.run("and the visit ends by minute 600: a service as long as the day has one start", """
            hire 15 0 600 => 0
            addService 1 200 => 0
            addStep 0 1 200 => 2
            addStep 0 1 199 => 3
            earliest 0 1 => 1
            addStep 0 1 1 => 4
            earliest 0 0 => 0
            earliest 0 1 => -1
            addStep 0 1 1 => 5
            earliest 0 0 => -1
            book 0 0 => NoSuchElement
            """);
    }

    private static void placeStaffAndChair() {
        Script.run("with the member of staff with the least load", """
            hire 15 0 600 => 0
            hire 15 0 600 => 1
            hire 15 0 600 => 2
            addService 1 20 => 0
            addService 1 21 => 1
            addService 1 19 => 2
            bookWith 0 0 0 => 0
            bookWith 1 1 0 => 1
            bookWith 2 2 0 => 2
            staffFor 0 100 => 2
            book 0 100 => 3
            staffOf 3 => 2
            book 0 200 => 4                        // 20, 21 and 39
            staffOf 4 => 0
            """);
        Script.run("of those who can take it then", """
            hire 15 0 600 => 0
            hire 15 0 600 => 1
            hire 1 0 600 => 2
            hire 15 300 600 => 3
            addService 1 50 => 0
            bookWith 0 0 0 => 0
            bookWith 0 1 100 => 1
            staffFor 0 0 => 1                      // 2 lacks the skill, 3 isn't there yet
            staffFor 0 49 => 1                     // 0 is taken until 50
            staffFor 0 50 => 0
            staffFor 0 51 => 0                     // 1 is taken from 100 on
            staffFor 0 300 => 3
            """);
        Script.run("of several the one with the lowest number", """
            hire 15 0 600 => 0
            hire 15 0 600 => 1
            hire 15 0 600 => 2
            addService 1 20 => 0
            staffFor 0 0 => 0
            book 0 0 => 0
            staffOf 0 => 0
            staffFor 0 300 => 1                    // 1 and 2 have the load 0
            book 0 300 => 1
            staffOf 1 => 1
            book 0 300 => 2
            staffOf 2 => 2
            staffFor 0 500 => 0                    // all have the load 20
            """);
        Script.run("and the chair with the lowest number", """
            hire 15 0 600 => 0
            hire 15 0 600 => 1
            hire 15 0 600 => 2
            addService 1 20 => 0
            book 0 0 => 0
            book 0 0 => 1
            book 0 0 => 2
            chairOf 0 => 0
            chairOf 1 => 1
            chairOf 2 => 2
            drop 1 => 0
            book 0 10 => 3                         // 1 and 3 are free
            chairOf 3 => 1
            book 0 20 => 4                         // 0, 2 and 3 are
            chairOf 4 => 0
            """);
    }

    private static void requests() {
        Script.run("there are at most 6 requests in the waiting list", """
            addService 1 20 => 0
            request 0 0 => 1
            request 0 0 => 2
            request 0 0 => 3
            request 0 0 => 4
            request 0 0 => 5
            request 0 0 => 6
            request 0 0 => IllegalState
            requests => 6
            """);
        Script.run("in the order in which they came", """
            addService 1 20 => 0
            addService 1 20 => 1
            addService 1 20 => 2
            request 2 599 => 1
            request 0 0 => 2
            request 1 300 => 3
            request 0 1 => 4
            requestAt 0 => 2
            requestAt 1 => 0
            requestAt 2 => 1
            requestAt 3 => 0
            """);
    }

    private static void servingInOrder() {
        Script.run("its requests are looked at in order", """
            hire 15 0 30 => 0
            addService 1 30 => 0
            addService 1 20 => 1
            addService 1 10 => 2
            book 0 0 => 0
            request 2 599 => 1
            request 1 599 => 2
            request 0 599 => 3
            drop 0 => 2
            serviceOf 1 => 2                       // the first to come has the first place
            startOf 1 => 0
            serviceOf 2 => 1
            startOf 2 => 10
            requestAt 0 => 0
            """);
        Script.run("its requests are looked at once: one that could not be booked is no bar", """
            hire 15 0 30 => 0
            addService 1 30 => 0
            addService 0 31 => 1
            addService 1 15 => 2
            book 0 0 => 0
            request 1 599 => 1                     // never has a place
            request 2 599 => 2
            request 0 599 => 3                     // has none behind that
            request 2 599 => 4
            drop 0 => 2
            requests => 2
            requestAt 0 => 1
            requestAt 1 => 0
            """);
        Script.run("its requests are looked at once: all six can be booked", """
            hire 15 0 60 => 0
            addService 1 60 => 0
            addService 1 10 => 1
            book 0 0 => 0
            request 1 0 => 1
            request 1 10 => 2
            request 1 20 => 3
            request 1 30 => 4
            request 1 40 => 5
            request 1 50 => 6
            drop 0 => 6
            requests => 0
            requestAt 0 => IndexOutOfBounds
            visits => 7
            startOf 6 => 50
            """);
        Script.run("is booked there, and leaves the list", """
            hire 15 0 100 => 0
            addService 1 100 => 0
            addService 1 20 => 1
            book 0 0 => 0
            request 1 599 => 1
            drop 0 => 1
            serviceOf 1 => 1
            startOf 1 => 0
            staffOf 1 => 0
            chairOf 1 => 0
            staffAt 0 19 => 1
            chairAt 0 19 => 1
            requests => 0
            request 1 599 => 1
            drop 1 => 1                            // it is not booked twice
            visits => 3
            """);
    }

    private static void servingUpToTheLatestStart() {
        Script.run("a place from minute 0 on", """
            hire 15 0 600 => 0
            addService 1 20 => 0
            book 0 300 => 0
            request 0 599 => 1
            drop 0 => 1
            startOf 1 => 0
            """);
        Script.run("with a start that is not above the latest one", """
            hire 15 0 600 => 0
            addService 1 20 => 0
            book 0 0 => 0
            book 0 100 => 1
            request 0 19 => 1
            request 0 20 => 2
            request 0 39 => 3
            drop 1 => 1                            // the place is at 20
            startOf 2 => 20
            requests => 2
            drop 0 => 1                            // at 0 for the first, at 40 for the other
            startOf 3 => 0
            requests => 1
            """);
        Script.run("with a start that is not above the latest one: 0 is such", """
            hire 15 0 600 => 0
            addService 1 20 => 0
            book 0 0 => 0
            book 0 300 => 1
            request 0 0 => 1
            drop 1 => 0                            // the place is at 20
            drop 0 => 1
            startOf 2 => 0
            """);
        Script.run("with a start that is not above the latest one: 599 is such", """
            hire 15 599 600 => 0
            addService 1 1 => 0
            book 0 0 => 0
            request 0 598 => 1
            request 0 599 => 2
            drop 0 => 1
            startOf 1 => 599
            requests => 1
            """);
        Script.run("whose service has a place: a request without one waits on", """
            addService 1 20 => 0
            addService 2 20 => 1
            hire 2 0 600 => 0
            book 0 0 => 0
            request 1 599 => 1
            drop 0 => 0
            requests => 1
            hire 4 0 600 => 1
            requests => 1                          // hiring does not serve it
            book 0 0 => 1
            requests => 1
            drop 1 => 1
            requests => 0
            staffOf 2 => 1
            """);
    }

    private static void servingUpToThirtyVisits() {
        String almost = "hire 15 0 600 => 0\n"
            + "addService 1 10 => 0\n"
            + Script.counting("book 0 0", 0, 28);
        Script.run("unless 30 visits were booked: the thirtieth may be a request's", almost + """
            request 0 599 => 1
            request 0 599 => 2
            drop 3 => 1
            visits => 30
            startOf 29 => 30
            requests => 1
            """);
        Script.run("unless 30 visits were booked: those that were dropped count", almost + """
            book 0 0 => 29
            request 0 599 => 1
            drop 0 => 0
            drop 1 => 0
            drop 29 => 0
            requests => 1
            visits => 30
            move 2 0 => 0
            requests => 1
            """);
    }

    private static void exceptions() {
        Script.run("there is no such member of staff, service, step, visit, chair, minute or place", """
            loadOf 0 => IndexOutOfBounds
            lengthOf 0 => IndexOutOfBounds
            addStep 0 0 1 => IndexOutOfBounds
            startOf 0 => IndexOutOfBounds
            chairAt 4 0 => IndexOutOfBounds
            chairAt 0 600 => IndexOutOfBounds
            requestAt 0 => IndexOutOfBounds
            """);
        Script.run("another argument is out of its range", """
            hire 0 0 600 => IllegalArgument
            hire 1 -1 600 => IllegalArgument
            hire 1 0 601 => IllegalArgument
            addService 4 1 => IllegalArgument
            addService 0 0 => IllegalArgument
            addUsual 4 => IllegalArgument
            fill 601 => IllegalArgument
            """);
        Script.run("if several apply, the one that is named first in the throws clause is thrown",
            "hire 2 0 600 => 0\n"
            + "addService 1 20 => 0\n"
            + "addService 2 20 => 1\n"             // nobody can take it
            + Script.counting("book 0 0", 0, 29)
            + """
            addStep 2 9 999 => IndexOutOfBounds
            addStep 0 9 1 => IllegalArgument
            book 2 0 => IndexOutOfBounds
            book 1 600 => IndexOutOfBounds
            book 1 0 => IllegalState
            bookWith 1 1 0 => IndexOutOfBounds
            bookWith 1 0 0 => IllegalState
            """);
        Script.run("a call that throws an exception changes nothing", """
            hire 3 0 100 => 0
            addService 1 60 => 0
            addService 2 10 => 1
            book 0 20 => 0
            request 0 0 => 1
            book 1 0 => NoSuchElement
            bookWith 1 0 0 => NoSuchElement
            book 0 0 => NoSuchElement
            move 0 41 => NoSuchElement
            drop 1 => IndexOutOfBounds
            request 2 0 => IndexOutOfBounds
            hire 3 0 601 => IllegalArgument
            addService 3 201 => IllegalArgument
            addStep 0 1 1 => IllegalState
            addUsual 4 => IllegalArgument
            visits => 1
            startOf 0 => 20
            staffOf 0 => 0
            chairOf 0 => 0
            staffAt 0 79 => 0
            chairAt 0 20 => 0
            loadOf 0 => 60
            requests => 1
            addStep 1 1 1 => 2                     // it was not booked
            hire 3 0 100 => 1
            addService 1 1 => 2
            """);
    }

    private static void constants() {
        Script.check("NONE = -1", SalonBook.NONE == -1, "is " + SalonBook.NONE);
        Script.check("WASH = 0", SalonBook.WASH == 0, "is " + SalonBook.WASH);
        Script.check("CUT = 1", SalonBook.CUT == 1, "is " + SalonBook.CUT);
        Script.check("COLOUR = 2", SalonBook.COLOUR == 2, "is " + SalonBook.COLOUR);
        Script.check("CARE = 3", SalonBook.CARE == 3, "is " + SalonBook.CARE);
    }
}
