import java.util.List;

/**
 * Tells two objects apart by calls: all that can be asked of an object, then changes whose
 * answers hang on what can't be asked (whether a service may still have steps, how late a
 * request may be). Objects with the same answers are the same to a caller.
 */
final class Probe {
    /** The document promises nothing behind so many calls of one object. */
    static final int CALLS = 512;
    private static final int MINUTES = 600;
    private static final int STAFF = 5;
    private static final int CHAIRS = 4;

    private final SalonBook x;
    private int left;
    private final StringBuilder all = new StringBuilder();

    private Probe(List<String[]> made, int calls) {
        x = object(made);
        left = calls;
    }

    static SalonBook object(List<String[]> made) {
        SalonBook x = new SalonBook();
        for (String[] call : made) {
            Calls.quickAnswer(x, call[0], Script.numbers(call));
        }
        return x;
    }

    /** The answers to so many calls of an object behind the calls that were made. */
    static String answers(List<String[]> made, int calls) {
        Probe probe = new Probe(made, calls);
        probe.askTotals();
        probe.askVisits();
        probe.change();
        probe.askTotals();
        return probe.all.toString();
    }

    /** Who takes which minute then, asked of several objects with so many calls each. */
    static String minutes(List<String[]> made, int calls) {
        StringBuilder told = new StringBuilder();
        if (calls < STAFF + CHAIRS) {
            return "";
        }
        Probe probe = new Probe(made, calls);
        for (int minute = 0; minute < MINUTES; minute++) {
            if (probe.left < STAFF + CHAIRS) {
                told.append(probe.all);
                probe = new Probe(made, calls);
            }
            for (int i = 0; i < STAFF; i++) {
                probe.ask("staffAt", i, minute);
            }
            for (int i = 0; i < CHAIRS; i++) {
                probe.ask("chairAt", i, minute);
            }
        }
        return told.append(probe.all).toString();
    }

    /** The answer, or the name of an exception; nothing when the object's calls are used up. */
    private String ask(String name, int... a) {
        if (left <= 0) {
            return "";
        }
        left--;
        String answer = Calls.quickAnswer(x, name, a);
        all.append(' ').append(answer);
        return answer;
    }

    /** Asks of 0, 1 and so on, until there is no such thing. */
    private void askEach(String name, int... more) {
        for (int i = 0; i <= CALLS; i++) {
            int[] a = new int[1 + more.length];
            a[0] = i;
            System.arraycopy(more, 0, a, 1, more.length);
            if (!Calls.isNumber(ask(name, a))) {
                return;
            }
        }
    }

    private void askTotals() {
        ask("visits");
        ask("requests");
        ask("peak");
        ask("fill", 100);
        ask("fill", 600);
        for (String name : new String[] {"requestAt", "lengthOf", "workOf", "skillsOf", "loadOf"}) {
            askEach(name);
        }
        askEach("earliest", 0);
        askEach("staffFor", 0);
    }

    private void askVisits() {
        for (int visit = 0;; visit++) {
            String start = ask("startOf", visit);
            if (!Calls.isNumber(start)) {
                return;
            }
            ask("serviceOf", visit);
            String staff = ask("staffOf", visit);
            String chair = ask("chairOf", visit);
            if (Calls.isNumber(chair) && !start.equals("-1")) {
                ask("staffAt", Integer.parseInt(staff), Integer.parseInt(start));
                ask("chairAt", Integer.parseInt(chair), Integer.parseInt(start));
            }
        }
    }

    private void change() {
        askEach("addStep", -1, 1);
        ask("hire", 15, 0, 600);
        ask("addService", 0, 1);
        ask("drop", 0);
        ask("drop", 1);
        ask("request", 0, 599);
        ask("move", 2, 0);
    }
}
