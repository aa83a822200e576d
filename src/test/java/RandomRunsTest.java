import java.util.ArrayList;
import java.util.List;

/**
 * Long runs of calls from a fixed row of numbers. What the class foresees is compared with what comes of it
 * in a twin, a second house that is given the same calls; and the answers have to fit one another.
 */
public final class RandomRunsTest {
    private static final int RUNS = 400;
    private static final int CALLS = 120;

    private long seed;
    private final HotBeds house = new HotBeds();
    private final List<int[]> calls = new ArrayList<>();

    private RandomRunsTest(long seed) {
        this.seed = seed;
    }

    public static void main(String[] args) {
        for (int run = 0; run < RUNS; run++) {
            new RandomRunsTest(run * 7919L + 1).run();
        }
        Check.end();
    }

    private int random(int below) {
        seed = seed * 6364136223846793005L + 1442695040888963407L;
        return (int) ((seed >>> 33) % below);
    }

    /** From one too few to one too many, at times, so that calls fail too. */
    private int random(int least, int most) {
        int edge = random(20) == 0 ? 1 : 0;
        return least - edge + random(most - least + 1 + 2 * edge);
    }

    private void run() {
        for (int i = 0; i < CALLS; i++) {
            int[] call = randomCall(i);
            long before = house.digest();
            int answer = make(house, call);
            if (answer == FAILED) {
                Check.same("a call that failed changed nothing", house.digest(), before);
            } else {
                calls.add(call);
            }
            answersFit();
            if (i % 8 == 7) {
                compareWithTwins();
            }
        }
    }

    private static final int FAILED = Integer.MIN_VALUE;

    private int[] randomCall(int i) {
        int kind = i < 8 ? random(2) : random(16);
        int sailor = random(0, Math.max(0, house.count(2) - 1));
        int bed = random(-1, Math.max(0, house.count(1) - 1));
        switch (kind) {
            case 0: return new int[] {0, random(0, 9)};
            case 1: return new int[] {1, random(0, 2), random(0, 9), random(0, random(2) == 0 ? 5 : 20), random(0, 12)};
            case 2: return new int[] {2, sailor, bed};
            case 3: return new int[] {3, random(0, 9)};
            case 4: return new int[] {4, random(1, 20)};
            case 5: return new int[] {5, sailor, random(1, 12)};
            case 6: return new int[] {6, sailor};
            case 7: return new int[] {7, sailor};
            case 8: return new int[] {8, sailor};
            case 9: return new int[] {9, sailor, random(0, 2)};
            default: return new int[] {10, random(3) == 0 ? random(1, 72) : random(1, 5)};
        }
    }

    private static int make(HotBeds x, int[] c) {
        try {
            switch (c[0]) {
                case 0: return x.bed(c[1]);
                case 1: return x.sailor(c[1], c[2], c[3], c[4]);
                case 2: return x.keep(c[1], c[2]);
                case 3: return x.setBell(c[1]);
                case 4: return x.setPawn(c[1]);
                case 5: return x.give(c[1], c[2]);
                case 6: return x.pawn(c[1]);
                case 7: return x.redeem(c[1]);
                case 8: return x.call(c[1]);
                case 9: return x.shift(c[1], c[2]);
                default: return x.pass(c[1]);
            }
        } catch (IndexOutOfBoundsException | IllegalArgumentException | IllegalStateException e) {
            boolean own = e.getStackTrace()[0].getClassName().startsWith("HotBeds");
            Check.same("thrown by the class itself", own ? 1 : 0, 1);
            return FAILED;
        }
    }

    private HotBeds twin() {
        HotBeds x = new HotBeds();
        for (int[] call : calls) {
            make(x, call);
        }
        return x;
    }

    private void answersFit() {
        int inBeds = 0;
        int onFloor = 0;
        int late = 0;
        int floors = 0;
        long rest = 0;
        for (int s = 0; s < house.count(2); s++) {
            int bed = house.told(s, 7);
            inBeds += house.told(s, 6) == 1 ? 1 : 0;
            onFloor += house.told(s, 6) == 2 ? 1 : 0;
            rest += house.told(s, 8);
            late += house.told(s, 9);
            floors += house.told(s, 10);
            Check.same("a bed if in a bed", bed >= 0 ? 1 : 0, house.told(s, 6) == 1 ? 1 : 0);
            if (bed >= 0) {
                Check.same("who is in it", house.about(bed, 4), s);
            }
            Check.same("0 to 99 coins", Math.max(0, Math.min(99, house.told(s, 3))), house.told(s, 3));
        }
        int taken = 0;
        for (int b = 0; b < house.count(1); b++) {
            taken += house.about(b, 4) >= 0 ? 1 : 0;
            Check.same("the coins for it", house.about(b, 3), house.about(b, 0) * house.about(b, 2));
            Check.same("warmth 0 to 8", Math.max(0, Math.min(8, house.about(b, 1))), house.about(b, 1));
        }
        Check.same("beds with somebody", taken, inBeds);
        Check.same("in beds", house.count(4), inBeds);
        Check.same("on the floor", house.count(5), onFloor);
        Check.same("late", house.count(6), late);
        Check.same("floors", house.count(7), floors);
        Check.sameMean("mean", house.mean(), house.count(2) == 0 ? 0 : (double) rest / house.count(2));
    }

    private void compareWithTwins() {
        long before = house.digest();
        compareHours(random(72) + 1);
        compareQuiet();
        for (int s = 0; s < house.count(2); s++) {
            if (house.told(s, 6) == 0) {
                compareAdvise(s);
            }
        }
        Check.same("questions change nothing", house.digest(), before);
    }

    private void compareHours(int hours) {
        HotBeds whole = twin();
        HotBeds single = twin();
        int sailors = house.count(2);
        int[] until = new int[sailors];
        for (int s = 0; s < sailors; s++) {
            until[s] = house.told(s, 6) == 1 ? 0 : -1;
        }
        int floors = 0;
        for (int h = 1; h <= 72; h++) {
            if (h == hours + 1) {
                Check.same("pass(" + hours + ")", whole.pass(hours), floors);
                Check.same("in one go, or by hours", whole.digest(), single.digest());
                for (int s = 0; s < sailors; s++) {
                    Check.same("would", house.would(s, hours), whole.told(s, 8) - house.told(s, 8));
                }
            }
            floors += single.pass(1);
            for (int s = 0; s < sailors; s++) {
                if (until[s] == -1 && h <= 48 && single.told(s, 6) == 1) {
                    until[s] = h;
                }
            }
        }
        for (int s = 0; s < sailors; s++) {
            Check.same("until", house.until(s), until[s]);
        }
    }

    private void compareQuiet() {
        int due = -1;
        for (int bell = 9; bell >= 0; bell--) {
            HotBeds x = twin();
            x.setBell(bell);
            x.pass(48);
            if (x.count(6) == house.count(6)) {
                due = bell;
            }
        }
        Check.same("quiet", house.quiet(), due);
    }

    private void compareAdvise(int sailor) {
        int due = -1;
        int most = -1;
        for (int watch = 0; watch < 3; watch++) {
            HotBeds x = twin();
            x.shift(sailor, watch);
            x.pass(48);
            if (x.told(sailor, 8) > most) {
                most = x.told(sailor, 8);
                due = watch;
            }
        }
        Check.same("advise", house.advise(sailor), due);
    }
}
