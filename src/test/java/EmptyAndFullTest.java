/** Each call in a house with no bed and no sailor, with beds alone, with sailors alone, and with all that it can have. */
public final class EmptyAndFullTest {
    private static final Class<IndexOutOfBoundsException> OUT = IndexOutOfBoundsException.class;
    private static final Class<IllegalArgumentException> ARGUMENT = IllegalArgumentException.class;
    private static final Class<IllegalStateException> STATE = IllegalStateException.class;
    private static final int BEDS = 6;
    private static final int SAILORS = 10;

    public static void main(String[] args) {
        noBedAndNoSailor();
        timeInAnEmptyHouse();
        bedsAlone();
        sailorsAlone();
        oneBedAndOneSailor();
        numbersOfAllBeds();
        numbersOfAllSailors();
        lastSailorAndLastBed();
        moreThanTheLast();
        bedsAndSailorsMadeInTurn();
        allInOneWatch();
        wholeHouseInThreeWatches();
        Check.end();
    }

    private static void makeBeds(HotBeds x, int many) {
        for (int bed = 0; bed < many; bed++) {
            x.bed(0);
        }
    }

    private static void makeSailors(HotBeds x, int many) {
        for (int sailor = 0; sailor < many; sailor++) {
            x.sailor(0, 0, 0, 0);
        }
    }

    /** No sailor and no bed has this number, whatever else the call is given. */
    private static void refusesSailor(HotBeds x, int sailor) {
        Check.fails("keep", x, OUT, () -> x.keep(sailor, -1));
        Check.fails("give", x, OUT, () -> x.give(sailor, 1));
        Check.fails("pawn", x, OUT, () -> x.pawn(sailor));
        Check.fails("redeem", x, OUT, () -> x.redeem(sailor));
        Check.fails("call", x, OUT, () -> x.call(sailor));
        Check.fails("shift", x, OUT, () -> x.shift(sailor, 0));
        Check.fails("told", x, OUT, () -> x.told(sailor, 0));
        Check.fails("would", x, OUT, () -> x.would(sailor, 1));
        Check.fails("until", x, OUT, () -> x.until(sailor));
        Check.fails("advise", x, OUT, () -> x.advise(sailor));
    }

    private static void noBedAndNoSailor() {
        HotBeds x = new HotBeds();
        for (int number : new int[] {-1, 0, 1, 9, 10, Integer.MIN_VALUE, Integer.MAX_VALUE}) {
            refusesSailor(x, number);
            Check.fails("about", x, OUT, () -> x.about(number, 0));
        }
        Check.same("quiet", x.quiet(), 0);
        Check.sameMean("mean", x.mean(), 0.0);
        Check.counts("count", x, 0, 0, 0, 0, 0, 0, 0, 0, 5, 6);
    }

    private static void timeInAnEmptyHouse() {
        HotBeds x = new HotBeds();
        Check.same("pass", x.pass(1), 0);
        Check.same("pass", x.pass(72), 0);
        Check.same("setBell", x.setBell(1), 5);
        Check.same("setPawn", x.setPawn(2), 6);
        Check.same("quiet", x.quiet(), 0);
        Check.sameMean("mean", x.mean(), 0.0);
        Check.counts("count", x, 73, 0, 0, 0, 0, 0, 0, 0, 1, 2);
    }

    private static void bedsAlone() {
        HotBeds x = new HotBeds();
        makeBeds(x, BEDS);
        refusesSailor(x, 0);
        Check.same("nobody lies down", x.pass(72), 0);
        for (int bed = 0; bed < BEDS; bed++) {
            Check.about("cold and empty", x, bed, 0, 0, 0, 0, -1);
        }
        Check.counts("count", x, 72, 6, 0, 0, 0, 0, 0, 0, 5, 6);
        Check.same("quiet", x.quiet(), 0);
        Check.sameMean("mean", x.mean(), 0.0);
    }

    private static void sailorsAlone() {
        HotBeds x = new HotBeds();
        makeSailors(x, SAILORS);
        Check.fails("about", x, OUT, () -> x.about(0, 0));
        Check.fails("keep", x, OUT, () -> x.keep(0, 0));
        Check.same("no bed is kept", x.keep(9, -1), -1);
        Check.same("no watch is better", x.advise(9), 0);
        Check.same("until", x.until(9), -1);
        Check.same("the odd hours 5 and 7 on the floor", x.would(9, 8), 2);
        Check.same("all wait", x.pass(4), 0);
        Check.same("all lie down", x.pass(1), 10);
        Check.counts("count", x, 5, 0, 10, 0, 0, 10, 0, 10, 5, 6);
        x.pass(3);
        Check.sameMean("mean", x.mean(), 2.0);
    }

    private static void oneBedAndOneSailor() {
        HotBeds x = new HotBeds();
        makeBeds(x, 1);
        makeSailors(x, 1);
        refusesSailor(x, 1);
        refusesSailor(x, -1);
        Check.fails("about", x, OUT, () -> x.about(1, 0));
        Check.fails("about", x, OUT, () -> x.about(-1, 0));
        Check.fails("keep", x, OUT, () -> x.keep(0, 1));
        Check.fails("keep", x, OUT, () -> x.keep(0, -2));
        Check.same("the only one", x.keep(0, 0), -1);
        Check.same("until", x.until(0), 1);
        x.pass(8);
        Check.sameMean("mean", x.mean(), 14.0);
    }

    private static void numbersOfAllBeds() {
        HotBeds x = new HotBeds();
        for (int bed = 0; bed < BEDS; bed++) {
            Check.same("the number of a bed", x.bed(9 - bed), bed);
            Check.same("beds", x.count(1), bed + 1);
            int next = bed + 1;
            Check.fails("the next one", x, OUT, () -> x.about(next, 0));
        }
        for (int price = 0; price <= 9; price++) {
            int due = price;
            Check.fails("a seventh bed", x, STATE, () -> x.bed(due));
        }
        for (int bed = 0; bed < BEDS; bed++) {
            Check.about("as it was made", x, bed, 9 - bed, 0, 0, 0, -1);
        }
    }

    private static void numbersOfAllSailors() {
        HotBeds x = new HotBeds();
        for (int sailor = 0; sailor < SAILORS; sailor++) {
            Check.same("the number of a sailor", x.sailor(sailor % 3, sailor, 2 * sailor, 11 * sailor), sailor);
            Check.same("sailors", x.count(2), sailor + 1);
            int next = sailor + 1;
            Check.fails("the next one", x, OUT, () -> x.told(next, 0));
        }
        for (int watch = 0; watch <= 2; watch++) {
            int due = watch;
            Check.fails("an eleventh sailor", x, STATE, () -> x.sailor(due, 0, 0, 0));
        }
        for (int sailor = 0; sailor < SAILORS; sailor++) {
            Check.told("as made", x, sailor, sailor % 3, sailor, 2 * sailor, 11 * sailor, 1, -1, 0, -1, 0, 0, 0);
        }
    }

    /** The sailor 9 and the bed 5 answer each call as all others do. */
    private static void lastSailorAndLastBed() {
        HotBeds x = new HotBeds();
        makeBeds(x, BEDS);
        makeSailors(x, SAILORS);
        Check.same("keep", x.keep(9, 5), -1);
        Check.same("told", x.told(9, 5), 5);
        Check.same("give", x.give(9, 2), 2);
        Check.same("pawn", x.pawn(9), 8);
        Check.same("redeem", x.redeem(9), 0);
        Check.same("shift", x.shift(9, 1), 0);
        Check.same("until", x.until(9), 9);
        Check.same("would", x.would(9, 72), 3 * 14 + 6);
        Check.same("advise", x.advise(9), 1);
        x.pass(9);
        Check.told("in the last bed", x, 9, 1, 0, 0, 0, 1, 5, 1, 5, 2, 0, 0);
        Check.about("the last bed", x, 5, 0, 8, 2, 0, 9);
        Check.same("call", x.call(9), 5);
        Check.about("left", x, 5, 0, 8, 2, 0, -1);
    }

    private static void moreThanTheLast() {
        HotBeds x = new HotBeds();
        makeBeds(x, BEDS);
        makeSailors(x, SAILORS);
        refusesSailor(x, 10);
        refusesSailor(x, -1);
        refusesSailor(x, Integer.MIN_VALUE);
        refusesSailor(x, Integer.MAX_VALUE);
        for (int bed : new int[] {6, Integer.MIN_VALUE, Integer.MAX_VALUE}) {
            Check.fails("about", x, OUT, () -> x.about(bed, 0));
            Check.fails("keep", x, OUT, () -> x.keep(9, bed));
        }
        Check.fails("about", x, OUT, () -> x.about(-1, 0));
        Check.fails("keep", x, OUT, () -> x.keep(9, -2));
        Check.fails("a wrong price", x, ARGUMENT, () -> x.bed(10));
        Check.fails("a wrong wage", x, ARGUMENT, () -> x.sailor(0, 0, 21, 0));
    }

    /** Beds and sailors are numbered apart, each from 0. */
    private static void bedsAndSailorsMadeInTurn() {
        HotBeds x = new HotBeds();
        for (int number = 0; number < BEDS; number++) {
            Check.same("the number of a sailor", x.sailor(0, 0, 0, 0), number);
            Check.same("the number of a bed", x.bed(0), number);
        }
        x.pass(1);
        for (int number = 0; number < BEDS; number++) {
            Check.same("the bed of sailor " + number, x.told(number, 7), number);
            Check.same("the sailor in bed " + number, x.about(number, 4), number);
        }
    }

    private static void allInOneWatch() {
        HotBeds x = new HotBeds();
        makeBeds(x, BEDS);
        makeSailors(x, SAILORS);
        Check.same("4 lie down", x.pass(8), 4);
        Check.counts("count", x, 8, 6, 10, 1, 6, 4, 0, 4, 5, 6);
        Check.same("all are up", x.pass(1), 0);
        Check.counts("count", x, 9, 6, 10, 1, 0, 0, 0, 4, 5, 6);
        Check.sameMean("6 by 14 and 4 by 2", x.mean(), 9.2);
        Check.same("quiet", x.quiet(), 0);
        Check.same("a watch of one's own", x.advise(9), 1);
    }

    /** Each is late by an hour behind each watch: 4 and 3 sailors thrice, and 3 twice till then. */
    private static void wholeHouseInThreeWatches() {
        HotBeds x = new HotBeds();
        makeBeds(x, BEDS);
        for (int sailor = 0; sailor < SAILORS; sailor++) {
            x.sailor(sailor % 3, 9, 20, 99);
        }
        x.setBell(8);
        Check.same("nobody lies down", x.pass(72), 0);
        Check.counts("count", x, 72, 6, 10, 0, 3, 0, 4 * 3 + 3 * 3 + 3 * 2, 0, 8, 6);
    }
}
