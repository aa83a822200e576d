/**
 * Runs of calls from a fixed row of numbers, 512 for each house, which is as long as the document promises:
 * each answer and each exception is compared with the model's, and behind each call the digest.
 */
public final class RandomRunsTest {
    private static final int RUNS = 600;
    private static final int CALLS = 512;
    private static final int FIRST_CALLS = 14;
    private static final String[] NAMES = {"bed", "sailor", "keep", "setBell", "setPawn", "give", "pawn", "redeem",
        "call", "shift", "told", "about", "count", "would", "until", "quiet", "advise", "mean"};

    private final HotBeds house = new HotBeds();
    private final Model model = new Model();
    private final int mostHours;
    private long seed;

    private RandomRunsTest(int run) {
        seed = run * 7919L + 1;
        mostHours = run % 3 == 0 ? 72 : run % 3 == 1 ? 8 : 2;
    }

    public static void main(String[] args) {
        for (int run = 0; run < RUNS; run++) {
            new RandomRunsTest(run).run(run);
        }
        longestTime();
        Check.end();
    }

    private void run(int run) {
        for (int calls = 0; calls < CALLS; calls += 2) {
            String name = calls < 2 * FIRST_CALLS ? NAMES[random(2)]
                : random(3) == 0 ? "pass" : NAMES[random(NAMES.length)];
            int[] arguments = arguments(name);
            compare("run " + run + ", call " + calls, name, arguments);
            compare("run " + run + ", call " + calls + ", behind " + name, "digest");
        }
    }

    /** 512 calls let the most hours go by that a house ever sees. */
    private static void longestTime() {
        RandomRunsTest longest = new RandomRunsTest(0);
        for (int i = 0; i < 6; i++) {
            longest.compare("the longest time", "bed", i);
        }
        for (int i = 0; i < 10; i++) {
            longest.compare("the longest time", "sailor", i % 3, i, i, i);
        }
        for (int i = 0; i < CALLS - 18; i++) {
            longest.compare("the longest time", "pass", 72);
        }
        longest.compare("the longest time", "count", 0);
        longest.compare("the longest time", "digest");
    }

    private void compare(String where, String name, int... arguments) {
        Object due = model.make(name, arguments);
        Object got = make(name, arguments);
        if (!got.equals(due)) {
            StringBuilder call = new StringBuilder(where).append(": ").append(name);
            for (int argument : arguments) {
                call.append(' ').append(argument);
            }
            Check.wrong(call.toString(), got, due);
        }
    }

    private int random(int below) {
        seed = seed * 6364136223846793005L + 1442695040888963407L;
        return (int) ((seed >>> 33) % below);
    }

    /** At times an edge, one too few or too many, or a number that is far out. */
    private int random(int least, int most) {
        switch (random(40)) {
            case 0: return least - 1;
            case 1: return most + 1;
            case 2: return least;
            case 3: return most;
            case 4: return random(8) == 0 ? Integer.MIN_VALUE : least;
            case 5: return random(8) == 0 ? Integer.MAX_VALUE : most;
            default: return least + random(most - least + 1);
        }
    }

    private int randomSailor() {
        return random(0, Math.max(0, (Integer) model.make("count", 2) - 1));
    }

    private int randomBed(int least) {
        return random(least, Math.max(0, (Integer) model.make("count", 1) - 1));
    }

    private int[] arguments(String name) {
        switch (name) {
            case "bed": return new int[] {random(0, 9)};
            case "sailor": return new int[] {random(0, 2), random(0, 9), random(0, random(2) == 0 ? 5 : 20), random(0, 12)};
            case "keep": return new int[] {randomSailor(), randomBed(-1)};
            case "setBell": return new int[] {random(0, 9)};
            case "setPawn": return new int[] {random(1, 20)};
            case "give": return new int[] {randomSailor(), random(1, random(4) == 0 ? 99 : 9)};
            case "shift": return new int[] {randomSailor(), random(0, 2)};
            case "pass": return new int[] {random(1, mostHours)};
            case "told": return new int[] {randomSailor(), random(0, 10)};
            case "about": return new int[] {randomBed(0), random(0, 4)};
            case "count": return new int[] {random(0, 9)};
            case "would": return new int[] {randomSailor(), random(1, 72)};
            case "quiet":
            case "mean": return new int[0];
            default: return new int[] {randomSailor()};
        }
    }

    private Object make(String name, int[] a) {
        try {
            return answer(name, a);
        } catch (IndexOutOfBoundsException | IllegalArgumentException | IllegalStateException e) {
            return e.getClass();
        }
    }

    private Object answer(String name, int[] a) {
        switch (name) {
            case "bed": return house.bed(a[0]);
            case "sailor": return house.sailor(a[0], a[1], a[2], a[3]);
            case "keep": return house.keep(a[0], a[1]);
            case "setBell": return house.setBell(a[0]);
            case "setPawn": return house.setPawn(a[0]);
            case "give": return house.give(a[0], a[1]);
            case "pawn": return house.pawn(a[0]);
            case "redeem": return house.redeem(a[0]);
            case "call": return house.call(a[0]);
            case "shift": return house.shift(a[0], a[1]);
            case "pass": return house.pass(a[0]);
            case "told": return house.told(a[0], a[1]);
            case "about": return house.about(a[0], a[1]);
            case "count": return house.count(a[0]);
            case "would": return house.would(a[0], a[1]);
            case "until": return house.until(a[0]);
            case "quiet": return house.quiet();
            case "advise": return house.advise(a[0]);
            case "mean": return house.mean();
            default: return house.digest();
        }
    }
}
