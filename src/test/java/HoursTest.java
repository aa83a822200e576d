/** Promise 12, pass, and with it the five steps of an hour. */
public final class HoursTest {
    private static final Class<IllegalArgumentException> ARGUMENT = IllegalArgumentException.class;

    public static void main(String[] args) {
        passRefuses();
        passCountsFloors();
        bellWakesByLoudness();
        bellRingsBehindEachWatch();
        lateOnTheFloor();
        lateKeepsTheBed();
        payInTheFirstHour();
        payLessForLateHours();
        payHalfWithoutBoots();
        bootsRedeemedBehindPay();
        cheapestBed();
        bootsPawnedForBed();
        noOtherBedIsTried();
        floorAfterFourHours();
        servedByNumbers();
        restAndWarmth();
        fullHouse();
        Check.end();
    }

    private static void passRefuses() {
        HotBeds x = new HotBeds();
        x.sailor(0, 0, 0, 0);
        for (int hours : new int[] {0, -1, 73, Integer.MIN_VALUE, Integer.MAX_VALUE}) {
            Check.fails("pass(" + hours + ")", x, ARGUMENT, () -> x.pass(hours));
        }
        x.pass(1);
        Check.same("an hour", x.count(0), 1);
        x.pass(72);
        Check.same("the most", x.count(0), 73);
    }

    private static void passCountsFloors() {
        HotBeds x = new HotBeds();
        x.sailor(0, 0, 0, 0);
        x.sailor(0, 0, 0, 0);
        x.sailor(1, 0, 0, 0);
        Check.same("all wait", x.pass(4), 0);
        Check.same("two lie down", x.pass(1), 2);
        Check.same("they lie there", x.pass(7), 0);
        Check.same("the third one", x.pass(1), 1);
        Check.same("three times each", x.pass(72), 9);
        Check.same("in all", x.count(7), 12);
    }

    /** Bell 5: up at once if so heavy or less, else late. */
    private static void bellWakesByLoudness() {
        HotBeds x = new HotBeds();
        for (int i = 0; i < 4; i++) {
            x.bed(0);
        }
        x.sailor(0, 5, 0, 0);
        x.sailor(0, 6, 0, 0);
        x.sailor(0, 0, 0, 0);
        x.sailor(1, 0, 0, 0);
        x.pass(8);
        Check.same("all in bed till the watch is over", x.count(4), 3);
        x.pass(1);
        Check.same("as loud as heavy", x.told(0, 6), 0);
        Check.same("heavier by 1", x.told(1, 6), 1);
        Check.same("late", x.told(1, 9), 1);
        Check.same("light", x.told(2, 6), 0);
        Check.same("the bell is not for the watch of the hour", x.told(3, 6), 1);
        Check.same("late in all", x.count(6), 1);
        x.pass(1);
        Check.same("7 is enough for 6", x.told(1, 6), 0);
        Check.same("late just once", x.told(1, 9), 1);
    }

    private static void bellRingsBehindEachWatch() {
        for (int watch = 0; watch < 3; watch++) {
            HotBeds x = new HotBeds();
            x.setBell(1);
            x.bed(0);
            x.sailor(watch, 4, 0, 0);
            for (int day = 0; day < 2; day++) {
                x.pass(day == 0 ? 8 * watch + 8 : 21);
                Check.same("watch " + watch + ": in bed to its end", x.told(0, 6), 1);
                Check.same("watch " + watch + ": late", x.told(0, 9), 2 * day);
                x.pass(1);
                Check.same("watch " + watch + ": 1 is less than 4", x.told(0, 6), 1);
                x.pass(1);
                Check.same("watch " + watch + ": 3 is less than 4", x.told(0, 9), 2 * day + 2);
                x.pass(1);
                Check.same("watch " + watch + ": 5 is not", x.told(0, 6), 0);
            }
        }
    }

    private static void lateOnTheFloor() {
        HotBeds x = new HotBeds();
        x.setBell(0);
        x.sailor(0, 3, 0, 0);
        x.pass(8);
        Check.told("on the floor", x, 0, 0, 3, 0, 0, 1, -1, 2, -1, 2, 0, 1);
        x.pass(2);
        Check.told("late there, rested in the odd hour", x, 0, 0, 3, 0, 0, 1, -1, 2, -1, 3, 2, 1);
        x.pass(1);
        Check.told("up", x, 0, 0, 3, 0, 0, 1, -1, 0, -1, 3, 2, 1);
    }

    private static void lateKeepsTheBed() {
        HotBeds x = new HotBeds();
        x.bed(0);
        x.sailor(0, 9, 0, 0);
        x.sailor(1, 0, 0, 0);
        x.pass(10);
        Check.same("late, in the bed", x.about(0, 4), 0);
        Check.same("waits for it", x.told(1, 6), 0);
        x.pass(1);
        Check.same("the bell is ahead of those who look for beds", x.about(0, 4), 1);
        Check.same("rest in late hours: 14, and 2 hours by 2", x.told(0, 8), 18);
        Check.same("in a warm bed from the first hour on", x.told(1, 8), 2);
    }

    private static void payInTheFirstHour() {
        HotBeds x = new HotBeds();
        x.sailor(0, 0, 7, 1);
        x.sailor(1, 0, 20, 80);
        x.sailor(2, 0, 20, 79);
        x.pass(1);
        Check.same("paid in the hour 0", x.told(0, 3), 8);
        x.sailor(0, 0, 5, 0);
        x.pass(7);
        Check.same("not in later hours", x.told(0, 3), 8);
        Check.same("made behind the first hour", x.told(3, 3), 0);
        Check.same("not in another watch", x.told(1, 3), 80);
        x.pass(1);
        Check.same("at most 99", x.told(1, 3), 99);
        x.pass(8);
        Check.same("just 99", x.told(2, 3), 99);
        x.pass(8);
        Check.same("once a day", x.told(0, 3), 15);
        Check.same("in the next watch", x.told(3, 3), 5);
    }

    private static void payLessForLateHours() {
        HotBeds x = new HotBeds();
        x.bed(0);
        x.bed(0);
        x.sailor(0, 9, 7, 0);
        x.sailor(0, 9, 1, 0);
        x.pass(24);
        Check.same("late", x.told(0, 9), 2);
        Check.same("paid ahead of it", x.told(0, 3), 7);
        Check.same("paid ahead of it", x.told(1, 3), 1);
        x.setBell(9);
        x.pass(1);
        Check.same("2 less", x.told(0, 3), 12);
        Check.same("at least 0", x.told(1, 3), 1);
        x.pass(24);
        Check.same("just since the last pay", x.told(0, 3), 19);
        Check.same("the rest of it is forgotten", x.told(1, 3), 2);
        Check.same("late in all", x.told(0, 9), 2);
    }

    private static void payHalfWithoutBoots() {
        HotBeds x = new HotBeds();
        x.setPawn(20);
        x.bed(0);
        x.sailor(0, 9, 7, 0);
        x.pass(5);
        x.setPawn(1);
        x.pawn(0);
        x.setPawn(20);
        x.pass(19);
        Check.same("paid with boots, and pawned", x.told(0, 3), 8);
        x.pass(1);
        Check.same("half of 7 is 3, and 2 less", x.told(0, 3), 9);
        x.setBell(9);
        x.pass(24);
        Check.same("half of 7", x.told(0, 3), 12);
    }

    private static void bootsRedeemedBehindPay() {
        HotBeds x = new HotBeds();
        x.setPawn(1);
        x.sailor(0, 0, 6, 4);
        x.sailor(0, 0, 6, 3);
        x.sailor(1, 0, 0, 50);
        for (int i = 0; i < 3; i++) {
            x.pawn(i);
        }
        x.setPawn(6);
        x.pass(1);
        Check.same("8 coins are enough", x.told(0, 4), 1);
        Check.same("they are paid", x.told(0, 3), 0);
        Check.same("7 coins are not", x.told(1, 4), 0);
        Check.same("they are kept", x.told(1, 3), 7);
        Check.same("not in another watch", x.told(2, 4), 0);
        x.give(1, 50);
        x.pass(7);
        Check.same("not in later hours", x.told(1, 4), 0);
        x.pass(1);
        Check.same("without a wage too", x.told(2, 3), 43);
        x.pass(16);
        Check.same("in the next watch", x.told(1, 4), 1);
        Check.same("half pay, and redeemed", x.told(1, 3), 52);
    }

    private static void cheapestBed() {
        HotBeds x = new HotBeds();
        int[] prices = {7, 3, 9, 3, 5, 4};
        for (int price : prices) {
            x.bed(price);
        }
        for (int i = 0; i < 7; i++) {
            x.sailor(0, 0, 0, 20);
        }
        x.pass(1);
        int[] due = {1, 3, 5, 4, 0, 2, -1};
        for (int i = 0; i < due.length; i++) {
            Check.same("bed of " + i, x.told(i, 7), due[i]);
            Check.same("purse of " + i, x.told(i, 3), due[i] < 0 ? 20 : 20 - prices[due[i]]);
        }
        Check.about("a bed", x, 5, 4, 2, 1, 4, 2);
    }

    private static void bootsPawnedForBed() {
        int[][] cases = {
            // purse, pawn, price, then: place, boots, purse
            {4, 6, 4, 1, 1, 0},
            {3, 6, 4, 1, 0, 5},
            {0, 4, 4, 1, 0, 0},
            {1, 3, 4, 1, 0, 0},
            {0, 3, 4, 2, 1, 0},
            {8, 1, 9, 1, 0, 0},
            {7, 1, 9, 2, 1, 7},
            {0, 20, 0, 1, 1, 0},
        };
        for (int[] row : cases) {
            HotBeds x = new HotBeds();
            x.setPawn(row[1]);
            x.bed(row[2]);
            x.sailor(0, 0, 0, row[0]);
            Check.same("on the floor", x.pass(1), row[3] == 2 ? 1 : 0);
            Check.same("place", x.told(0, 6), row[3]);
            Check.same("boots", x.told(0, 4), row[4]);
            Check.same("purse", x.told(0, 3), row[5]);
        }
        HotBeds x = new HotBeds();
        x.bed(8);
        x.sailor(0, 0, 0, 1);
        x.pawn(0);
        Check.same("without boots", x.pass(1), 1);
        Check.told("without boots", x, 0, 0, 0, 0, 7, 0, -1, 2, -1, 0, 0, 1);
        Check.about("nobody got into it", x, 0, 8, 0, 0, 0, -1);
    }

    private static void noOtherBedIsTried() {
        HotBeds x = new HotBeds();
        x.setPawn(1);
        x.bed(9);
        x.bed(1);
        x.sailor(0, 0, 0, 5);
        x.keep(0, 0);
        Check.same("the kept one is too dear", x.pass(1), 1);
        Check.told("on the floor", x, 0, 0, 0, 0, 5, 1, 0, 2, -1, 0, 0, 1);
        x.sailor(0, 0, 0, 9);
        x.keep(1, 0);
        x.pass(1);
        Check.same("who has enough", x.told(1, 7), 0);
        x.call(0);
        x.pass(1);
        Check.same("the kept one is not free: the cheapest one", x.told(0, 7), 1);
    }

    private static void floorAfterFourHours() {
        HotBeds x = new HotBeds();
        x.bed(0);
        x.sailor(0, 0, 0, 0);
        x.sailor(0, 0, 0, 0);
        x.pass(4);
        Check.same("waits", x.told(1, 6), 0);
        x.pass(1);
        Check.same("on the floor", x.told(1, 6), 2);
        x.call(0);
        x.keep(0, 0);
        x.pass(1);
        Check.same("who is on the floor looks for no bed", x.told(1, 6), 2);
        x.call(1);
        x.call(0);
        x.keep(0, -1);
        x.sailor(1, 0, 0, 0);
        x.pass(7);
        Check.same("the next watch is in the bed", x.about(0, 4), 2);
        HotBeds y = new HotBeds();
        y.pass(6);
        y.sailor(0, 0, 0, 0);
        Check.same("who comes late waits not", y.pass(1), 1);
    }

    private static void servedByNumbers() {
        HotBeds x = new HotBeds();
        x.bed(2);
        x.sailor(0, 0, 0, 0);
        x.sailor(0, 0, 9, 0);
        x.setPawn(1);
        x.pass(1);
        Check.same("the first one is too poor", x.told(0, 6), 2);
        Check.same("the second one gets it", x.told(1, 7), 0);
        HotBeds y = new HotBeds();
        y.bed(2);
        y.sailor(0, 0, 2, 0);
        y.sailor(0, 0, 9, 0);
        y.pass(1);
        Check.same("pay comes ahead of the bed", y.told(0, 7), 0);
        Check.same("the second one waits", y.told(1, 6), 0);
    }

    private static void restAndWarmth() {
        HotBeds x = new HotBeds();
        x.bed(0);
        x.sailor(0, 0, 0, 0);
        int[] rest = {1, 2, 4, 6, 8, 10, 12, 14, 14, 14};
        int[] warmth = {2, 4, 6, 8, 8, 8, 8, 8, 7, 6};
        for (int hour = 0; hour < rest.length; hour++) {
            x.pass(1);
            Check.same("rest behind hour " + hour, x.told(0, 8), rest[hour]);
            Check.same("warmth behind hour " + hour, x.about(0, 1), warmth[hour]);
        }
        x.pass(6);
        Check.same("cold", x.about(0, 1), 0);
        x.pass(1);
        Check.same("at least 0", x.about(0, 1), 0);
        HotBeds y = new HotBeds();
        y.sailor(0, 0, 0, 0);
        int[] floor = {0, 0, 0, 0, 0, 1, 1, 2, 2, 2};
        for (int hour = 0; hour < floor.length; hour++) {
            y.pass(1);
            Check.same("rest on the floor behind hour " + hour, y.told(0, 8), floor[hour]);
        }
    }

    /** 6 beds and 10 sailors of one watch: 4 lie on the floor each day. */
    private static void fullHouse() {
        HotBeds x = new HotBeds();
        for (int i = 0; i < 6; i++) {
            x.bed(0);
        }
        for (int i = 0; i < 10; i++) {
            x.sailor(0, 9, 0, 0);
        }
        x.setBell(8);
        Check.same("floors", x.pass(72), 12);
        Check.counts("the house", x, 72, 6, 10, 0, 0, 0, 30, 12, 8, 6);
        Check.same("in a bed: 14 in the watch, 2 in the late hour", x.told(5, 8), 3 * 16);
        Check.same("on the floor, late in an even hour", x.told(9, 8), 3 * 2);
    }
}
