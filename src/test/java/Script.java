import java.util.ArrayList;
import java.util.List;

/**
 * Runs of calls told as text, a line a call: "book 0 60 => 3", "drop 9 => IndexOutOfBounds".
 * Each run has an object of its own. A call that throws and a question must change nothing:
 * that is looked at behind each of them.
 */
final class Script {
    private static int wrong = 0;
    private static int runs = 0;

    private Script() {
    }

    static void run(String title, String text) {
        runs++;
        SalonBook x = new SalonBook();
        String before = Calls.state(x);
        for (String line : calls(text)) {
            String[] sides = line.split("=>");
            String[] words = sides[0].trim().split(" +");
            String due = sides[1].trim();
            String got = Calls.answer(x, words[0], numbers(words)).replace("Exception", "");
            if (!got.equals(due)) {
                tell(title, sides[0].trim() + " answered " + got + ", due is " + due);
            }
            String after = Calls.state(x);
            boolean threw = !got.matches("-?[0-9]+");
            if ((threw || Calls.isQuestion(words[0])) && !after.equals(before)) {
                tell(title, sides[0].trim() + " changed something");
            }
            before = after;
        }
    }

    private static List<String> calls(String text) {
        List<String> lines = new ArrayList<>();
        for (String raw : text.split("\n")) {
            String line = raw.replaceAll("//.*", "").trim();
            if (!line.isEmpty()) {
                lines.add(line);
            }
        }
        return lines;
    }

    /** Lines of the same call whose answers are the numbers from first to last. */
    static String counting(String call, int first, int last) {
        StringBuilder lines = new StringBuilder();
        for (int i = first; i <= last; i++) {
            lines.append(call).append(" => ").append(i).append('\n');
        }
        return lines.toString();
    }

    private static int[] numbers(String[] words) {
        int[] numbers = new int[words.length - 1];
        for (int i = 0; i < numbers.length; i++) {
            String word = words[i + 1];
            if (word.equals("MIN")) {
                numbers[i] = Integer.MIN_VALUE;
            } else if (word.equals("MAX")) {
                numbers[i] = Integer.MAX_VALUE;
            } else {
                numbers[i] = Integer.parseInt(word);
            }
        }
        return numbers;
    }

    static void tell(String title, String fault) {
        wrong++;
        System.out.println(title + ": " + fault);
    }

    static void end() {
        System.out.println(runs + " runs, " + wrong + " answers not as due");
        if (wrong != 0) {
            System.exit(1);
        }
    }
}
