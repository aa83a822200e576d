/** Promises 7 to 11: give, pawn, redeem, call, shift. */
public final class ByHandTest {
    private static final Class<IndexOutOfBoundsException> OUT = IndexOutOfBoundsException.class;
    private static final Class<IllegalArgumentException> ARGUMENT = IllegalArgumentException.class;
    private static final Class<IllegalStateException> STATE = IllegalStateException.class;
    private static final int[] NO_SAILORS = {-1, 1, 10, Integer.MIN_VALUE, Integer.MAX_VALUE};

    public static void main(String[] args) {
        give();
        pawn();
        redeem();
        callFromBed();
        callFromFloor();
        callOfTheLate();
        callInTheLastHour();
        callBehindTheLastHour();
        shift();
        shiftIsFollowed();
        shiftIntoTheWatchOfTheHour();
        shiftToEachWatch();
        Check.end();
    }

    private static HotBeds houseWithSailor(int purse) {
        HotBeds x = new HotBeds();
        x.sailor(0, 0, 0, purse);
        return x;
    }

    private static void give() {
        HotBeds x = houseWithSailor(0);
        Check.same("the least", x.give(0, 1), 1);
        Check.same("up to the most", x.give(0, 98), 99);
        Check.same("more is lost", x.give(0, 1), 99);
        Check.same("it is told", x.told(0, 3), 99);
        HotBeds y = houseWithSailor(50);
        Check.same("the most", y.give(0, 99), 99);
        for (int coins : new int[] {0, -1, 100, Integer.MIN_VALUE, Integer.MAX_VALUE}) {
            Check.fails("coins " + coins, x, ARGUMENT, () -> x.give(0, coins));
        }
        for (int sailor : NO_SAILORS) {
            Check.fails("give to " + sailor, x, OUT, () -> x.give(sailor, 1));
            Check.fails("nothing to " + sailor, x, OUT, () -> x.give(sailor, 0));
        }
    }

    private static void pawn() {
        HotBeds x = houseWithSailor(90);
        Check.same("purse and pawn", x.pawn(0), 96);
        Check.same("in pawn", x.told(0, 4), 0);
        Check.fails("twice", x, STATE, () -> x.pawn(0));
        HotBeds y = houseWithSailor(94);
        Check.same("more is lost", y.pawn(0), 99);
        for (int sailor : NO_SAILORS) {
            Check.fails("pawn of " + sailor, x, OUT, () -> x.pawn(sailor));
        }
    }

    private static void redeem() {
        HotBeds x = houseWithSailor(50);
        Check.fails("not in pawn", x, STATE, () -> x.redeem(0));
        x.pawn(0);
        Check.same("the pawn and 2 more", x.redeem(0), 48);
        Check.same("boots again", x.told(0, 4), 1);
        Check.fails("twice", x, STATE, () -> x.redeem(0));
        HotBeds poor = houseWithSailor(1);
        poor.pawn(0);
        Check.fails("7 of 8 coins", poor, STATE, () -> poor.redeem(0));
        poor.give(0, 1);
        Check.same("8 of 8 coins", poor.redeem(0), 0);
        for (int sailor : NO_SAILORS) {
            Check.fails("redeem of " + sailor, x, OUT, () -> x.redeem(sailor));
        }
    }

    private static void callFromBed() {
        HotBeds x = new HotBeds();
        x.bed(1);
        x.bed(2);
        x.sailor(0, 0, 0, 9);
        x.sailor(0, 0, 0, 9);
        x.pass(2);
        Check.same("the bed", x.call(1), 1);
        Check.told("called", x, 1, 0, 0, 0, 7, 1, -1, 0, -1, 2, 0, 0);
        Check.about("left", x, 1, 2, 4, 1, 2, -1);
        Check.fails("who is up", x, STATE, () -> x.call(1));
        Check.same("the bed", x.call(0), 0);
        x.keep(1, 0);
        x.pass(1);
        Check.same("the cheapest again, by numbers", x.told(0, 7), 0);
        Check.same("looks again, the watch is not over", x.told(1, 7), 1);
        Check.same("pays again", x.told(1, 3), 5);
        Check.about("got into twice", x, 1, 2, 6, 2, 4, 1);
        for (int sailor : new int[] {-1, 2, Integer.MIN_VALUE, Integer.MAX_VALUE}) {
            Check.fails("call of " + sailor, x, OUT, () -> x.call(sailor));
        }
    }

    private static void callFromFloor() {
        HotBeds x = houseWithSailor(0);
        x.pass(5);
        Check.same("on the floor", x.told(0, 6), 2);
        Check.same("the floor", x.call(0), -1);
        Check.same("up", x.told(0, 6), 0);
        Check.same("lies down again in the next hour", x.pass(1), 1);
        Check.same("how often", x.told(0, 10), 2);
        x.call(0);
        x.bed(0);
        x.pass(1);
        Check.same("a bed, as there is one", x.told(0, 7), 0);
    }

    private static void callOfTheLate() {
        HotBeds x = new HotBeds();
        x.setBell(0);
        x.bed(0);
        x.sailor(0, 9, 0, 0);
        x.pass(9);
        Check.same("late", x.told(0, 9), 1);
        Check.same("called", x.call(0), 0);
        x.pass(3);
        Check.told("the watch is over", x, 0, 0, 9, 0, 0, 1, -1, 0, -1, 16, 1, 0);
    }

    /** "Looks for a bed again, if the watch is not over": in its last hour it is not. */
    private static void callInTheLastHour() {
        HotBeds x = new HotBeds();
        x.bed(2);
        x.sailor(0, 0, 0, 9);
        x.sailor(0, 0, 0, 9);
        x.pass(7);
        Check.same("from the bed", x.call(0), 0);
        Check.same("from the floor", x.call(1), -1);
        Check.same("one lies down again", x.pass(1), 1);
        Check.told("the bed again", x, 0, 0, 0, 0, 5, 1, -1, 1, 0, 14, 0, 0);
        Check.told("the floor again", x, 1, 0, 0, 0, 9, 1, -1, 2, -1, 2, 0, 2);
        Check.about("the bed", x, 0, 2, 8, 2, 4, 0);
    }

    /** The watch is over at the hour 8, though its bell is not yet rung. */
    private static void callBehindTheLastHour() {
        HotBeds x = new HotBeds();
        x.setBell(0);
        x.bed(2);
        x.sailor(0, 9, 0, 9);
        x.sailor(0, 9, 0, 9);
        x.pass(8);
        Check.same("from the bed", x.call(0), 0);
        Check.same("from the floor", x.call(1), -1);
        Check.same("nobody lies down", x.pass(1), 0);
        Check.told("up, and not late", x, 0, 0, 9, 0, 7, 1, -1, 0, -1, 14, 0, 0);
        Check.told("up, and not late", x, 1, 0, 9, 0, 9, 1, -1, 0, -1, 2, 0, 1);
        Check.about("the bed gets colder", x, 0, 2, 7, 1, 2, -1);
    }

    private static void shift() {
        HotBeds x = new HotBeds();
        x.bed(0);
        x.sailor(1, 0, 0, 0);
        Check.same("before", x.shift(0, 1), 1);
        Check.same("before", x.shift(0, 2), 1);
        Check.same("told", x.told(0, 0), 2);
        Check.same("before", x.shift(0, 0), 2);
        for (int watch : new int[] {-1, 3, Integer.MIN_VALUE, Integer.MAX_VALUE}) {
            Check.fails("watch " + watch, x, OUT, () -> x.shift(0, watch));
        }
        for (int sailor : NO_SAILORS) {
            Check.fails("shift of " + sailor, x, OUT, () -> x.shift(sailor, 0));
        }
        x.pass(1);
        Check.fails("in a bed", x, STATE, () -> x.shift(0, 1));
        Check.fails("in a bed, a wrong watch", x, OUT, () -> x.shift(0, 3));
        HotBeds y = houseWithSailor(0);
        y.pass(5);
        Check.fails("on the floor", y, STATE, () -> y.shift(0, 1));
        Check.fails("on the floor, a wrong watch", y, OUT, () -> y.shift(0, -1));
        y.call(0);
        Check.same("up again", y.shift(0, 1), 0);
    }

    private static void shiftIsFollowed() {
        HotBeds x = new HotBeds();
        x.bed(0);
        x.sailor(0, 0, 3, 0);
        x.shift(0, 1);
        x.pass(8);
        Check.told("not yet", x, 0, 1, 0, 3, 0, 1, -1, 0, -1, 0, 0, 0);
        x.pass(1);
        Check.told("paid and in the bed", x, 0, 1, 0, 3, 3, 1, -1, 1, 0, 1, 0, 0);
    }

    /** Shifted behind the first hour, one gets no pay, but looks for a bed. */
    private static void shiftIntoTheWatchOfTheHour() {
        HotBeds x = new HotBeds();
        x.bed(0);
        x.sailor(2, 0, 3, 0);
        x.pass(1);
        Check.same("before", x.shift(0, 0), 2);
        x.pass(1);
        Check.told("in the bed at once, not paid", x, 0, 0, 0, 3, 0, 1, -1, 1, 0, 1, 0, 0);
        HotBeds y = new HotBeds();
        y.sailor(0, 0, 3, 0);
        y.pass(1);
        y.shift(0, 1);
        y.pass(8);
        Check.same("paid in both watches", y.told(0, 3), 6);
    }

    /** "watch is 0 to 2": from each to each, also to the same one. */
    private static void shiftToEachWatch() {
        for (int from = 0; from <= 2; from++) {
            for (int to = 0; to <= 2; to++) {
                HotBeds x = new HotBeds();
                x.sailor(from, 0, 0, 0);
                Check.same("before", x.shift(0, to), from);
                Check.same("from now on", x.told(0, 0), to);
                Check.same("on the floor in the fifth hour of it", x.pass(8 * to + 5), 1);
                Check.same("and not ahead of it", x.told(0, 6), 2);
                Check.same("an hour ahead of it", x.would(0, 1), 1);
            }
        }
    }
}
