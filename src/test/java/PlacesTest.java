/** Promises 24 to 29: places, rests, fill and peak. */
public final class PlacesTest {
    public static void main(String[] args) {
        for (String name : new String[] {"earliest", "earliestByScan"}) {
            earliest(name);
            earliestThrows(name);
        }
        staffFor();
        inRest();
        inRestNeedsChairAndStaff();
        inRestThrows();
        fill();
        fillOfEightServices();
        peak();
        Script.end();
    }

    private static void earliest(String name) {
        Script.run("promises 24 and 25: the ends of what is booked", """
            addService 1 20 => 0
            ASK 0 0 => -1                          // nobody is there
            hire 2 30 200 => 0
            hire 3 250 400 => 1
            ASK 0 0 => 30                          // a shift begins
            ASK 0 180 => 180
            ASK 0 181 => 250
            ASK 0 380 => 380
            ASK 0 381 => -1
            addUsual 0 => 1
            ASK 1 0 => 250                         // asks for WASH
            addService 1 10 => 2
            addStep 2 -1 40 => 2
            addStep 2 1 15 => 3
            book 2 30 => 0                         // 30 to 40 and 80 to 95
            ASK 0 0 => 40                          // a step of a visit ends
            ASK 0 60 => 60
            ASK 0 61 => 95
            ASK 2 0 => 45                          // its last step begins at 95
            ASK 2 46 => 46
            ASK 2 71 => 95                         // its first step begins at 95
            ASK 2 134 => 134
            ASK 2 136 => 250
            """.replace("ASK", name));
        Script.run("promises 24 and 25: the chairs are taken", """
            hire 15 0 600 => 0
            hire 15 0 600 => 1
            addService 1 10 => 0
            addStep 0 -1 150 => 2
            addService 0 10 => 1
            addService 0 150 => 2
            book 0 0 => 0
            book 0 0 => 1
            book 0 0 => 2
            book 0 20 => 3
            startOf 2 => 10
            startOf 3 => 20
            chairOf 3 => 3
            ASK 1 0 => 10                          // one chair is free until 20
            ASK 1 1 => 10
            ASK 1 11 => 160                        // until a visit ends with a rest
            ASK 2 0 => 160
            """.replace("ASK", name));
        Script.run("promises 24 and 25: a visit ends by minute 600", """
            hire 15 0 600 => 0
            addService 1 200 => 0
            addStep 0 -1 200 => 2
            addStep 0 -1 200 => 3
            addService 1 1 => 1
            ASK 0 0 => 0
            ASK 0 1 => -1
            ASK 1 599 => 599
            book 1 599 => 0
            ASK 1 599 => -1
            hire 15 0 600 => 1
            book 0 0 => 1
            ASK 0 0 => 0
            addService 1 200 => 2
            addStep 2 1 200 => 2
            addStep 2 1 200 => 3
            addStep 2 1 1 => 4
            ASK 2 0 => -1
            """.replace("ASK", name));
    }

    private static void earliestThrows(String name) {
        Script.run("promises 24 and 25: " + name + " throws", """
            ASK 0 0 => IndexOutOfBounds
            hire 15 0 600 => 0
            addService 1 20 => 0
            ASK 1 0 => IndexOutOfBounds
            ASK -1 0 => IndexOutOfBounds
            ASK MAX 0 => IndexOutOfBounds
            ASK MIN 0 => IndexOutOfBounds
            ASK 0 -1 => IndexOutOfBounds
            ASK 0 600 => IndexOutOfBounds
            ASK 0 MAX => IndexOutOfBounds
            ASK 0 MIN => IndexOutOfBounds
            ASK 0 599 => -1
            ASK 0 580 => 580
            """.replace("ASK", name));
    }

    private static void staffFor() {
        Script.run("promise 26: staffFor", """
            staffFor 0 0 => IndexOutOfBounds
            addService 1 20 => 0
            staffFor 0 0 => -1
            hire 2 100 200 => 0
            hire 2 50 600 => 1
            hire 2 50 600 => 2
            staffFor 0 0 => 1
            staffFor 0 100 => 0
            bookWith 0 0 100 => 0
            staffFor 0 120 => 1                    // 0 has the load 20
            bookWith 0 1 150 => 1
            staffFor 0 120 => 2
            staffFor 0 150 => 2
            bookWith 0 2 300 => 2
            staffFor 0 120 => 0                    // all have the load 20
            staffFor 0 100 => 1                    // 0 is taken then
            staffFor 0 580 => 1
            staffFor 0 581 => -1
            staffFor 1 0 => IndexOutOfBounds
            staffFor -1 0 => IndexOutOfBounds
            staffFor MAX 0 => IndexOutOfBounds
            staffFor 0 -1 => IndexOutOfBounds
            staffFor 0 600 => IndexOutOfBounds
            staffFor 0 MIN => IndexOutOfBounds
            """);
        Script.run("promise 26: at minute 0, and never behind the day", """
            hire 1 0 600 => 0
            hire 2 0 100 => 1
            addService 1 20 => 0
            staffFor 0 0 => 1
            staffFor 0 80 => 1
            staffFor 0 81 => -1
            """);
    }

    private static void inRest() {
        Script.run("promise 27: inRest", """
            hire 15 0 600 => 0
            hire 15 0 600 => 1
            addService 1 10 => 0
            addStep 0 -1 30 => 2
            addStep 0 -1 20 => 3
            addStep 0 0 10 => 4
            addStep 0 -1 40 => 5
            addService 1 20 => 1
            addService 1 30 => 2
            addService 1 31 => 3
            addService 1 40 => 4
            addService 1 41 => 5
            book 0 100 => 0                        // rests 110, 140 and 170, to 210
            inRest 0 1 => 110
            inRest 0 2 => 110
            inRest 0 3 => 170                      // within one step
            inRest 0 4 => 170
            inRest 0 5 => -1
            bookWith 1 0 110 => 1
            inRest 0 1 => 140                      // 130 to 150 is in two steps
            inRest 0 2 => 170
            bookWith 1 0 140 => 2
            inRest 0 1 => 170
            inRest 2 1 => -1                       // no rest
            bookWith 1 0 180 => 3
            inRest 0 1 => -1
            drop 2 => 0
            inRest 0 1 => 140
            drop 1 => 0
            inRest 0 1 => 110
            """);
        Script.run("promise 27: a service with a rest of its own", """
            hire 15 0 600 => 0
            addService 1 10 => 0
            addStep 0 -1 60 => 2
            addService 1 5 => 1
            addStep 1 -1 10 => 2
            addStep 1 1 5 => 3
            book 0 0 => 0
            bookWith 1 0 12 => 1
            inRest 0 1 => 17
            bookWith 1 0 17 => 2
            inRest 0 1 => 22
            inRest 1 1 => -1
            addService 1 10 => 2
            inRest 1 2 => -1                       // another visit is in that rest
            addService 1 5 => 3
            inRest 1 3 => 22
            """);
    }

    private static void inRestNeedsChairAndStaff() {
        Script.run("promise 27: the member of that visit, and some chair", """
            hire 3 0 600 => 0
            hire 15 0 600 => 1
            addService 1 10 => 0
            addStep 0 -1 60 => 2
            addService 2 10 => 1
            addService 1 10 => 2
            addService 0 15 => 3
            bookWith 0 0 0 => 0
            inRest 0 1 => -1                       // lacks COLOUR
            inRest 0 2 => 10
            bookWith 0 1 0 => 1
            inRest 1 1 => 10
            addService 1 35 => 4
            bookWith 4 1 10 => 2
            inRest 1 1 => 45
            bookWith 3 0 20 => 3
            inRest 0 2 => 10
            inRest 0 3 => 35                       // they are free from 10 to 20 and from 35
            """);
        Script.run("promise 27: all chairs are taken", """
            hire 15 0 70 => 0
            hire 15 0 600 => 1
            hire 15 0 600 => 2
            addService 1 10 => 0
            addStep 0 -1 60 => 2
            addService 1 30 => 1
            addService 1 45 => 2
            addService 1 10 => 3
            bookWith 0 0 0 => 0
            bookWith 0 1 0 => 1
            bookWith 1 1 10 => 2
            bookWith 2 2 10 => 3
            inRest 0 3 => 40
            inRest 0 1 => 40
            inRest 1 3 => 40
            move 2 100 => 100
            inRest 0 3 => 10
            """);
    }

    private static void inRestThrows() {
        Script.run("promise 27: inRest throws", """
            inRest 0 0 => IndexOutOfBounds
            hire 15 0 600 => 0
            addUsual 2 => 0
            inRest 0 0 => IndexOutOfBounds
            book 0 0 => 0
            inRest 0 0 => -1
            inRest 0 1 => IndexOutOfBounds
            inRest 0 -1 => IndexOutOfBounds
            inRest 0 MAX => IndexOutOfBounds
            inRest 0 MIN => IndexOutOfBounds
            inRest 1 0 => IndexOutOfBounds
            inRest -1 0 => IndexOutOfBounds
            inRest MAX 0 => IndexOutOfBounds
            inRest MIN 0 => IndexOutOfBounds
            drop 0 => 0
            inRest 0 0 => IndexOutOfBounds
            """);
    }

    private static void fill() {
        Script.run("promise 28: fill", """
            fill 0 => 0
            fill 600 => 0
            addService 0 40 => 0
            addService 0 30 => 1
            addService 0 10 => 2
            addStep 2 -1 60 => 2
            fill 29 => 0
            fill 30 => 2
            fill 39 => 2
            fill 40 => 1
            fill 69 => 1
            fill 70 => 3                           // 40 + 30, not the 70 alone: 3 is below 4
            fill 99 => 3
            fill 100 => 6
            fill 110 => 5
            fill 139 => 5
            fill 140 => 7
            fill 600 => 7
            fill 601 => IllegalArgument
            fill -1 => IllegalArgument
            fill MAX => IllegalArgument
            fill MIN => IllegalArgument
            fill 0 => 0
            addService 0 40 => 3
            fill 40 => 1
            """);
    }

    private static void fillOfEightServices() {
        Script.run("promise 28: fill of eight services", """
            addService 0 200 => 0
            addService 0 101 => 1
            addService 0 52 => 2
            addService 0 27 => 3
            addService 0 13 => 4
            addService 0 7 => 5
            addService 0 3 => 6
            addService 0 1 => 7
            fill 404 => 255
            fill 600 => 255
            fill 403 => 127
            fill 1 => 128
            fill 2 => 128
            fill 11 => 224
            fill 200 => 1
            fill 204 => 193
            addStep 0 -1 200 => 2
            addStep 0 -1 200 => 3
            addStep 0 -1 1 => 4
            fill 600 => 254
            """);
    }

    private static void peak() {
        Script.run("promise 29: peak", """
            peak => 0
            hire 15 0 600 => 0
            hire 15 0 600 => 1
            peak => 0
            addUsual 2 => 0
            addService 1 20 => 1
            bookWith 1 0 500 => 0
            peak => 500
            bookWith 0 0 100 => 1
            peak => 100
            bookWith 1 1 510 => 2
            peak => 510
            bookWith 1 0 115 => 3                  // in the rest, on a second chair
            peak => 115
            bookWith 1 1 130 => 4
            peak => 130
            drop 1 => 0
            peak => 130
            drop 3 => 0
            peak => 510
            drop 2 => 0
            peak => 130
            drop 4 => 0
            peak => 500
            move 0 580 => 580
            peak => 580
            drop 0 => 0
            peak => 0
            """);
        Script.run("promise 29: the first and the last minute", """
            hire 15 0 600 => 0
            hire 15 0 600 => 1
            addService 1 1 => 0
            book 0 599 => 0
            peak => 599
            book 0 0 => 1
            peak => 0
            bookWith 0 0 599 => NoSuchElement
            bookWith 0 1 599 => 2
            peak => 599
            """);
    }
}
