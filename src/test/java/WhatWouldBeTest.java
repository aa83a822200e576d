/** Promises 16 to 19: would, until, quiet, advise. */
public final class WhatWouldBeTest {
    private static final Class<IndexOutOfBoundsException> OUT = IndexOutOfBoundsException.class;
    private static final Class<IllegalArgumentException> ARGUMENT = IllegalArgumentException.class;
    private static final Class<IllegalStateException> STATE = IllegalStateException.class;
    private static final int[] NO_SAILORS = {-1, 3, 10, Integer.MIN_VALUE, Integer.MAX_VALUE};

    public static void main(String[] args) {
        would();
        wouldKnowsTheBell();
        wouldKnowsPawnAndBoots();
        wouldKnowsLateHours();
        wouldKnowsTheKeptBed();
        wouldLeastAndMostHours();
        wouldRefuses();
        until();
        untilTheLastHour();
        untilIsZeroJustInABed();
        untilRefuses();
        quietIsAsLoudAsTheHeaviest();
        quietSeesTheSecondDay();
        quietLeavesOutWhatIsOver();
        quiet();
        advise();
        adviseSeesFortyEightHours();
        adviseTakesTheSmallestOfSeveral();
        adviseRefuses();
        Check.end();
    }

    /** A bed; sailors of the watches 0, 0 and 1, who need no coins. */
    private static HotBeds house() {
        HotBeds x = new HotBeds();
        x.bed(0);
        x.sailor(0, 5, 0, 0);
        x.sailor(0, 3, 0, 0);
        x.sailor(1, 0, 0, 0);
        return x;
    }

    private static void would() {
        HotBeds x = house();
        long before = x.digest();
        Check.same("an hour", x.would(0, 1), 1);
        Check.same("a watch", x.would(0, 8), 14);
        Check.same("a day", x.would(0, 24), 14);
        Check.same("three days", x.would(0, 72), 42);
        Check.same("on the floor", x.would(1, 72), 6);
        Check.same("not yet", x.would(2, 8), 0);
        Check.same("a warm bed", x.would(2, 72), 48);
        Check.same("nothing is changed", x.digest(), before);
        x.pass(3);
        Check.same("by how much more, not how much", x.would(0, 1), 2);
        Check.same("not the rest from ahead", x.would(0, 24), 14 - 4 + 4);
    }

    private static void wouldKnowsTheBell() {
        HotBeds x = new HotBeds();
        x.setBell(0);
        x.bed(0);
        x.sailor(0, 9, 0, 0);
        Check.same("5 late hours by 2", x.would(0, 24), 24);
        x.setBell(9);
        Check.same("no late hours", x.would(0, 24), 14);
    }

    private static void wouldKnowsPawnAndBoots() {
        HotBeds x = new HotBeds();
        x.setPawn(3);
        x.bed(4);
        x.sailor(0, 0, 0, 0);
        Check.same("the pawn is too small", x.would(0, 8), 4);
        x.setPawn(4);
        Check.same("the pawn is as much", x.would(0, 8), 14);
        x.setPawn(3);
        x.pawn(0);
        x.setPawn(20);
        Check.same("the boots are in pawn", x.would(0, 8), 4);
    }

    /** Late for 2 hours, and so by 2 coins short of the price of 5 in the next watch. */
    private static void wouldKnowsLateHours() {
        HotBeds x = new HotBeds();
        x.bed(5);
        x.sailor(0, 9, 5, 0);
        x.pass(24);
        Check.same("late", x.told(0, 9), 2);
        Check.same("no coins", x.told(0, 3), 0);
        x.setPawn(1);
        Check.same("3 coins, and 1", x.would(0, 8), 4);
        x.setPawn(2);
        Check.same("3 coins, and 2", x.would(0, 8), 14);
    }

    private static void wouldKnowsTheKeptBed() {
        HotBeds x = new HotBeds();
        x.bed(0);
        x.bed(9);
        x.sailor(0, 0, 0, 1);
        x.keep(0, 1);
        Check.same("the kept bed is too dear", x.would(0, 8), 4);
        x.keep(0, -1);
        Check.same("any bed", x.would(0, 8), 14);
    }

    private static void wouldRefuses() {
        HotBeds x = house();
        for (int hours : new int[] {0, -1, 73, Integer.MIN_VALUE, Integer.MAX_VALUE}) {
            Check.fails("would(0, " + hours + ")", x, ARGUMENT, () -> x.would(0, hours));
        }
        for (int sailor : NO_SAILORS) {
            Check.fails("would(" + sailor + ", 1)", x, OUT, () -> x.would(sailor, 1));
            Check.fails("would(" + sailor + ", 0)", x, OUT, () -> x.would(sailor, 0));
        }
    }

    private static void until() {
        HotBeds x = house();
        long before = x.digest();
        Check.same("in the first hour", x.until(0), 1);
        Check.same("never", x.until(1), -1);
        Check.same("in the next watch", x.until(2), 9);
        Check.same("nothing is changed", x.digest(), before);
        x.pass(1);
        Check.same("now", x.until(0), 0);
        Check.same("an hour nearer", x.until(2), 8);
        x.pass(8);
        Check.same("in the next day", x.until(0), 16);
        Check.same("now", x.until(2), 0);
    }

    /** Has 1 coin, earns 2 each day, and needs 6: in the hour 48 there are 7. */
    private static void untilTheLastHour() {
        HotBeds x = new HotBeds();
        x.setPawn(1);
        x.bed(6);
        x.sailor(0, 0, 4, 0);
        x.pawn(0);
        x.setPawn(20);
        Check.same("behind 49 hours: not by then", x.until(0), -1);
        x.pass(1);
        Check.same("behind 48 hours", x.until(0), 48);
        x.pass(1);
        Check.same("behind 47 hours", x.until(0), 47);
        x.pass(46);
        Check.same("not yet", x.told(0, 6), 0);
        x.pass(1);
        Check.same("in the bed", x.told(0, 6), 1);
    }

    private static void untilRefuses() {
        HotBeds x = house();
        for (int sailor : NO_SAILORS) {
            Check.fails("until(" + sailor + ")", x, OUT, () -> x.until(sailor));
        }
    }

    private static void quiet() {
        HotBeds x = new HotBeds();
        Check.same("without sailors", x.quiet(), 0);
        x.bed(0);
        x.sailor(2, 0, 0, 0);
        Check.same("who hears all", x.quiet(), 0);
        x.sailor(0, 4, 0, 0);
        long before = x.digest();
        Check.same("in a bed", x.quiet(), 4);
        Check.same("nothing is changed", x.digest(), before);
        x.sailor(0, 7, 0, 0);
        Check.same("on the floor", x.quiet(), 7);
        x.sailor(1, 9, 0, 0);
        x.setBell(0);
        Check.same("the heaviest", x.quiet(), 9);
        Check.same("the bell is as it was", x.count(8), 0);
        HotBeds y = new HotBeds();
        y.setBell(0);
        y.bed(0);
        y.sailor(0, 2, 0, 0);
        y.pass(9);
        Check.same("late", y.told(0, 9), 1);
        Check.same("late by an hour more, not late ahead", y.quiet(), 2);
    }

    private static void advise() {
        HotBeds x = house();
        long before = x.digest();
        Check.same("28 in watch 0, 32 behind the other one and ahead of 2 in 1", x.advise(0), 1);
        Check.same("the floor in 0, 32 in 1 and 2: the smaller one", x.advise(1), 1);
        Check.same("the floor in 0, 32 in 1, 28 in 2", x.advise(2), 1);
        Check.same("nothing is changed", x.digest(), before);
        HotBeds y = new HotBeds();
        y.sailor(2, 0, 0, 0);
        Check.same("all the same: the smallest", y.advise(0), 0);
        y.bed(0);
        Check.same("14 in each watch: the smallest", y.advise(0), 0);
        y.sailor(0, 0, 0, 0);
        y.keep(1, 0);
        Check.same("the smaller number looks first, but has it cold", y.advise(0), 1);
        y.pass(12);
        Check.same("the rest behind 48 hours", y.advise(0), 1);
        Check.same("the watch is as it was", y.told(0, 0), 2);
        HotBeds z = new HotBeds();
        z.bed(0);
        z.sailor(0, 0, 0, 0);
        z.sailor(1, 0, 0, 0);
        z.sailor(0, 0, 0, 0);
        Check.same("the floor in 0 and 1", z.advise(2), 2);
    }

    private static void adviseRefuses() {
        HotBeds x = house();
        for (int sailor : NO_SAILORS) {
            Check.fails("advise(" + sailor + ")", x, OUT, () -> x.advise(sailor));
        }
        x.pass(1);
        Check.fails("in a bed", x, STATE, () -> x.advise(0));
        x.pass(4);
        Check.fails("on the floor", x, STATE, () -> x.advise(1));
        x.call(1);
        Check.same("up again", x.advise(1) >= 0 ? 1 : 0, 1);
    }

    /** "hours is 1 to 72": both are as if they had gone by, in each hour of a day. */
    private static void wouldLeastAndMostHours() {
        for (int hour = 1; hour <= 24; hour++) {
            for (int hours : new int[] {1, 2, 71, 72}) {
                HotBeds x = house();
                x.pass(hour);
                int[] would = {x.would(0, hours), x.would(1, hours), x.would(2, hours)};
                int[] before = {x.told(0, 8), x.told(1, 8), x.told(2, 8)};
                x.pass(hours);
                for (int sailor = 0; sailor < 3; sailor++) {
                    Check.same("at the hour " + hour + ", would(" + sailor + ", " + hours + ")", would[sailor],
                        x.told(sailor, 8) - before[sailor]);
                }
            }
        }
    }

    /** "0 if it is so now": not on the floor, not called, and yet if late. */
    private static void untilIsZeroJustInABed() {
        HotBeds x = new HotBeds();
        x.setBell(0);
        x.bed(0);
        x.sailor(0, 9, 0, 0);
        x.sailor(0, 0, 0, 0);
        x.pass(9);
        Check.same("late in a bed", x.until(0), 0);
        x.call(0);
        Check.same("called behind the watch", x.until(0), 16);
        x.pass(22);
        Check.same("on the floor", x.told(1, 6), 2);
        Check.same("on the floor, and never in a bed", x.until(1), -1);
        x.call(0);
        Check.same("called in the watch", x.until(0), 1);
    }

    /** "The least, 0 to 9". */
    private static void quietIsAsLoudAsTheHeaviest() {
        for (int heavy = 0; heavy <= 9; heavy++) {
            HotBeds x = new HotBeds();
            x.setBell(9 - heavy);
            x.sailor(1, heavy, 0, 0);
            Check.same("the bell for " + heavy, x.quiet(), heavy);
            x.setBell(x.quiet());
            x.pass(48);
            Check.same("nobody is late", x.count(6), 0);
        }
    }

    /** "In the next 48 hours": who is called behind the watch hears the bell no sooner than a day later. */
    private static void quietSeesTheSecondDay() {
        HotBeds x = new HotBeds();
        x.setBell(0);
        x.bed(0);
        x.sailor(0, 3, 0, 0);
        x.pass(8);
        x.call(0);
        Check.same("late in the hour 32", x.quiet(), 3);
        HotBeds y = new HotBeds();
        y.bed(0);
        y.sailor(0, 3, 0, 0);
        y.pass(9);
        y.setBell(0);
        Check.same("up by the bell", y.told(0, 6), 0);
        Check.same("late in the hour 32 too", y.quiet(), 3);
    }

    /** "By an hour more": the hours late till now don't count. */
    private static void quietLeavesOutWhatIsOver() {
        HotBeds x = new HotBeds();
        x.setBell(0);
        x.bed(0);
        x.sailor(0, 9, 0, 0);
        x.pass(12);
        Check.same("late", x.told(0, 9), 4);
        Check.same("1 and 8 are enough now, but not the next day", x.quiet(), 9);
        x.call(0);
        Check.same("late no more", x.told(0, 6), 0);
        x.shift(0, 1);
        Check.same("in the next watch", x.quiet(), 9);
    }

    /** "Behind 48 hours": 28 in watch 0 and in watch 1 then, but 26 and 28 behind 47, and 28 and 29 behind 49. */
    private static void adviseSeesFortyEightHours() {
        HotBeds x = new HotBeds();
        x.bed(0);
        x.sailor(1, 0, 3, 0);
        x.pass(8);
        Check.same("14 in the hours 24 to 31, and 14 in 48 to 55", x.advise(0), 0);
        HotBeds y = new HotBeds();
        y.bed(0);
        y.sailor(1, 6, 0, 5);
        y.pass(3);
        Check.same("behind 48 hours, not yet 49", y.advise(0), 1);
        HotBeds z = new HotBeds();
        z.bed(9);
        z.sailor(1, 0, 3, 0);
        z.pass(2);
        Check.same("behind 48 hours, no more 47", z.advise(0), 0);
    }

    /** "Of several the smallest". */
    private static void adviseTakesTheSmallestOfSeveral() {
        for (int watch = 0; watch < 3; watch++) {
            HotBeds x = new HotBeds();
            x.sailor(watch, 0, 0, 0);
            Check.same("4 on the floor in all of them", x.advise(0), 0);
            x.bed(0);
            Check.same("28 in all of them", x.advise(0), 0);
            HotBeds y = new HotBeds();
            y.bed(0);
            y.bed(0);
            y.sailor(0, 0, 0, 0);
            y.sailor(watch, 0, 0, 0);
            y.keep(1, 1);
            Check.same("28 in all of them, in a bed of one's own", y.advise(1), 0);
            HotBeds z = new HotBeds();
            z.bed(0);
            z.sailor(0, 0, 0, 0);
            z.sailor(watch, 0, 0, 0);
            z.sailor(1, 0, 0, 0);
            Check.same("4 on the floor in 0, 32 in 1 and 28 in 2", z.advise(1), 1);
        }
    }
}
