/** Makes calls that are told as text, such as "book 0 60", and tells their answers as text. */
final class Calls {
    static final String[] QUESTIONS = {
        "requests", "requestAt", "lengthOf", "workOf", "skillsOf", "visits", "startOf", "staffOf",
        "chairOf", "serviceOf", "loadOf", "staffAt", "chairAt", "earliest", "earliestByScan",
        "staffFor", "inRest", "fill", "peak"};
    static final String[] CHANGES = {
        "hire", "addService", "addStep", "addUsual", "book", "bookWith", "move", "drop", "request"};

    private Calls() {
    }

    static boolean isQuestion(String name) {
        for (String question : QUESTIONS) {
            if (question.equals(name)) {
                return true;
            }
        }
        return false;
    }

    static int arity(String name) {
        switch (name) {
            case "requests": case "visits": case "peak":
                return 0;
            case "hire": case "addStep": case "bookWith":
                return 3;
            case "addService": case "book": case "move": case "request": case "staffAt":
            case "chairAt": case "earliest": case "earliestByScan": case "staffFor": case "inRest":
                return 2;
            default:
                return 1;
        }
    }

    /**
     * The answer as a number, or the simple name of the exception. One that the class did not
     * throw itself, but left to the machine or the library, has a mark, so it is never as due.
     */
    static String answer(SalonBook x, String name, int... a) {
        try {
            return Integer.toString(call(x, name, a));
        } catch (RuntimeException e) {
            String thrower = e.getStackTrace()[0].getClassName();
            boolean own = thrower.equals("SalonBook") || thrower.startsWith("SalonBook$");
            return own ? simpleName(e) : "unlooked-for " + simpleName(e);
        }
    }

    /** The same, but whoever threw an exception: that takes long to find out. */
    static String quickAnswer(SalonBook x, String name, int... a) {
        try {
            return Integer.toString(call(x, name, a));
        } catch (RuntimeException e) {
            return simpleName(e);
        }
    }

    /** Whether an answer is one; else it is the name of an exception. */
    static boolean isNumber(String answer) {
        char last = answer.isEmpty() ? ' ' : answer.charAt(answer.length() - 1);
        return last >= '0' && last <= '9';
    }

    static String simpleName(RuntimeException e) {
        return e.getClass().getSimpleName();
    }

    private static int call(SalonBook x, String name, int[] a) {
        switch (name) {
            case "hire": return x.hire(a[0], a[1], a[2]);
            case "addService": return x.addService(a[0], a[1]);
            case "addStep": return x.addStep(a[0], a[1], a[2]);
            case "addUsual": return x.addUsual(a[0]);
            case "book": return x.book(a[0], a[1]);
            case "bookWith": return x.bookWith(a[0], a[1], a[2]);
            case "move": return x.move(a[0], a[1]);
            case "drop": return x.drop(a[0]);
            case "request": return x.request(a[0], a[1]);
            case "requests": return x.requests();
            case "requestAt": return x.requestAt(a[0]);
            case "lengthOf": return x.lengthOf(a[0]);
            case "workOf": return x.workOf(a[0]);
            case "skillsOf": return x.skillsOf(a[0]);
            case "visits": return x.visits();
            case "startOf": return x.startOf(a[0]);
            case "staffOf": return x.staffOf(a[0]);
            case "chairOf": return x.chairOf(a[0]);
            case "serviceOf": return x.serviceOf(a[0]);
            case "loadOf": return x.loadOf(a[0]);
            case "staffAt": return x.staffAt(a[0], a[1]);
            case "chairAt": return x.chairAt(a[0], a[1]);
            case "earliest": return x.earliest(a[0], a[1]);
            case "earliestByScan": return x.earliestByScan(a[0], a[1]);
            case "staffFor": return x.staffFor(a[0], a[1]);
            case "inRest": return x.inRest(a[0], a[1]);
            case "fill": return x.fill(a[0]);
            case "peak": return x.peak();
            default: throw new Error("no such call: " + name);
        }
    }
}
