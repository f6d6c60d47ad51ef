import java.util.ArrayList;
import java.util.Arrays;
import java.util.List;

/**
 * Runs of calls told as text, a line a call: "book 0 60 => 3", "drop 9 => IndexOutOfBounds".
 * Each run has an object of its own. A call that throws and a question must change nothing:
 * that is looked at for each of them, by a run with it and a run without it (Probe).
 * No object is used for more calls than the document promises answers for.
 */
final class Script {
    private static int wrong = 0;
    private static int runs = 0;

    private Script() {
    }

    static void run(String title, String text) {
        runs++;
        SalonBook x = new SalonBook();
        List<String[]> made = new ArrayList<>();
        List<String[]> changes = new ArrayList<>();
        for (String line : lines(text)) {
            String[] sides = line.split("=>");
            String[] call = sides[0].trim().split(" +");
            String due = sides[1].trim();
            String got = Calls.answer(x, call[0], numbers(call)).replace("Exception", "");
            if (!got.equals(due)) {
                tell(title, sides[0].trim() + " answered " + got + ", due is " + due);
            }
            boolean changesNothing = Calls.isQuestion(call[0]) || !Calls.isNumber(got);
            List<String[]> without = new ArrayList<>(made);
            made.add(call);
            if (!changesNothing) {
                changes.add(call);
            } else if (!isRepeated(made) && tellsApart(made, without)) {
                tell(title, sides[0].trim() + " changed something");
            }
        }
        if (made.size() > Probe.CALLS) {
            tell(title, "has more calls than an object is used for");
        }
        int left = Probe.CALLS - made.size();
        if (!Probe.minutes(made, left).equals(Probe.minutes(changes, left))) {
            tell(title, "the questions and the calls that threw changed something");
        }
    }

    /** Whether the last call is the one before it again: one look at such a row is enough. */
    private static boolean isRepeated(List<String[]> made) {
        int last = made.size() - 1;
        return last > 0 && Arrays.equals(made.get(last), made.get(last - 1));
    }

    private static boolean tellsApart(List<String[]> made, List<String[]> without) {
        int left = Probe.CALLS - made.size();
        return !Probe.answers(made, left).equals(Probe.answers(without, left));
    }

    /** A new object behind the calls of a text, whose answers are looked at elsewhere. */
    static SalonBook object(String text) {
        List<String[]> made = new ArrayList<>();
        for (String line : lines(text)) {
            made.add(line.split("=>")[0].trim().split(" +"));
        }
        return Probe.object(made);
    }

    private static List<String> lines(String text) {
        List<String> lines = new ArrayList<>();
        for (String raw : text.split("\n")) {
            String line = raw.replaceAll("//.*", "").trim();
            if (!line.isEmpty()) {
                lines.add(line);
            }
        }
        return lines;
    }

    /** Lines of the same call whose answers are the numbers from first to last. */
    static String counting(String call, int first, int last) {
        StringBuilder lines = new StringBuilder();
        for (int i = first; i <= last; i++) {
            lines.append(call).append(" => ").append(i).append('\n');
        }
        return lines.toString();
    }

    static int[] numbers(String[] words) {
        int[] numbers = new int[words.length - 1];
        for (int i = 0; i < numbers.length; i++) {
            String word = words[i + 1];
            if (word.equals("MIN")) {
                numbers[i] = Integer.MIN_VALUE;
            } else if (word.equals("MAX")) {
                numbers[i] = Integer.MAX_VALUE;
            } else {
                numbers[i] = Integer.parseInt(word);
            }
        }
        return numbers;
    }

    /** A test that is not told as a run: what it looks at must hold. */
    static void check(String title, boolean holds, String fault) {
        runs++;
        if (!holds) {
            tell(title, fault);
        }
    }

    static void tell(String title, String fault) {
        wrong++;
        System.out.println(title + ": " + fault);
    }

    static void end() {
        System.out.println(runs + " runs, " + wrong + " answers not as due");
        if (wrong != 0) {
            System.exit(1);
        }
    }
}
