import java.util.ArrayList;
import java.util.List;
import java.util.Random;

/**
 * Promises 1 to 29 in runs of 512 calls, each answer compared with PlainSalon's. The runs
 * are drawn from fixed seeds, so that they are the same each time.
 */
public final class RandomRunsTest {
    private static final int RUNS = 120;
    private static final int CALLS = 512;
    private static final int[] EDGES = {
        Integer.MIN_VALUE, -2, -1, 0, 1, 3, 4, 5, 6, 7, 8, 15, 16, 29, 30, 31, 199, 200, 201,
        598, 599, 600, 601, Integer.MAX_VALUE - 1, Integer.MAX_VALUE};

    public static void main(String[] args) {
        for (int seed = 0; seed < RUNS; seed++) {
            if (!run(seed)) {
                System.exit(1);
            }
        }
        System.out.println(RUNS + " random runs, all answers as due");
    }

    private static boolean run(int seed) {
        Random random = new Random(seed);
        SalonBook x = new SalonBook();
        PlainSalon plain = new PlainSalon();
        List<String> told = new ArrayList<>();
        for (int i = 0; i < CALLS; i++) {
            String name = name(random, i);
            int[] a = arguments(random, name, seed);
            String got = Calls.answer(x, name, a);
            String due = plain.answer(name, a);
            StringBuilder line = new StringBuilder(name);
            for (int argument : a) {
                line.append(' ').append(argument);
            }
            told.add(line + " => " + got);
            if (!got.equals(due)) {
                told.forEach(System.out::println);
                System.out.println("seed " + seed + ": the last answer is wrong, due is " + due);
                return false;
            }
        }
        return true;
    }

    private static String name(Random random, int call) {
        if (call < 12) {
            return Calls.CHANGES[random.nextInt(4)];
        }
        int kind = random.nextInt(20);
        if (kind == 0) {
            return Calls.CHANGES[random.nextInt(4)];
        }
        if (kind < 8) {
            return Calls.CHANGES[4 + random.nextInt(5)];
        }
        return Calls.QUESTIONS[random.nextInt(Calls.QUESTIONS.length)];
    }

    private static int[] arguments(Random random, String name, int seed) {
        int[] a = new int[Calls.arity(name)];
        for (int i = 0; i < a.length; i++) {
            boolean wild = random.nextInt(40) == 0;
            a[i] = wild ? EDGES[random.nextInt(EDGES.length)] : fitting(random, name, i, seed);
        }
        return a;
    }

    /** An argument that mostly is in its range. */
    private static int fitting(Random random, String name, int place, int seed) {
        int longest = seed % 3 == 0 ? 20 : seed % 3 == 1 ? 60 : 200;
        switch (name + " " + place) {
            case "hire 0": return random.nextInt(3) == 0 ? 1 + random.nextInt(15) : 15;
            case "hire 1": return random.nextInt(200);
            case "hire 2": return 200 + random.nextInt(401);
            case "addService 0": return random.nextInt(4);
            case "addService 1": case "addStep 2": return 1 + random.nextInt(longest);
            case "addStep 1": return random.nextInt(2) == 0 ? -1 : random.nextInt(4);
            case "addUsual 0": return random.nextInt(4);
            case "move 0": case "drop 0": case "inRest 0": case "startOf 0": case "staffOf 0":
            case "chairOf 0": case "serviceOf 0": return random.nextInt(20);
            case "requestAt 0": return random.nextInt(7);
            case "loadOf 0": case "staffAt 0": case "bookWith 1": return random.nextInt(5);
            case "chairAt 0": return random.nextInt(4);
            case "fill 0": return random.nextInt(601);
            case "inRest 1": return random.nextInt(7);
            default: return place == 0 ? random.nextInt(7) : minute(random);
        }
    }

    private static int minute(Random random) {
        switch (random.nextInt(4)) {
            case 0: return 0;
            case 1: return random.nextInt(100);
            default: return random.nextInt(600);
        }
    }
}
