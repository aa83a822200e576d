/** The sentences of "Terms" that name a number at which something begins, ends or starts again: a test for each. */
public final class TermsTest {
    private static final Class<IndexOutOfBoundsException> OUT = IndexOutOfBoundsException.class;
    private static final Class<IllegalArgumentException> ARGUMENT = IllegalArgumentException.class;
    private static final Class<IllegalStateException> STATE = IllegalStateException.class;

    public static void main(String[] args) {
        halvesAreCutTowardsZero();
        watchesStartAgainEachDay();
        firstHourHasRemainderZero();
        warmthIsZeroToEight();
        purseHoldsNinetyNine();
        whatIsSoAtFirst();
        keptForSeveralAndOthersGetIn();
        keptBedTakenAndNoOther();
        onTheFloorTillTheBell();
        onTheFloorTillACall();
        leastAndGreatestPawn();
        pawnAsItIsThen();
        eachBellAndEachSleeper();
        bellBehindTheLastWatchOfTheDay();
        whoIsUpIsNotLate();
        bellAheadOfBeds();
        payAtLeastZero();
        lateHoursCountToTheNextPay();
        redeemedJustWithSoMuch();
        redeemedInTheFirstHourAlone();
        redeemedAndPawnedAgain();
        cheapestAndSmallestNumber();
        priceJustInThePurse();
        priceJustWithThePawn();
        waitsForFourHours();
        poorLieDownAtOnce();
        lyingDownIsCountedOnce();
        floorRestsInOddHours();
        warmFromFourOn();
        refusedCallsChangeNothing();
        firstNamedExceptionIsThrown();
        Check.end();
    }

    /** "/ is cut towards 0": half the wage is paid to who has no boots. */
    private static void halvesAreCutTowardsZero() {
        for (int wage = 0; wage <= 20; wage++) {
            HotBeds x = new HotBeds();
            x.setPawn(1);
            x.sailor(0, 0, wage, 0);
            x.pawn(0);
            x.setPawn(20);
            x.pass(1);
            int[] halves = {0, 0, 1, 1, 2, 2, 3, 3, 4, 4, 5, 5, 6, 6, 7, 7, 8, 8, 9, 9, 10};
            Check.same("half of " + wage, x.told(0, 3), 1 + halves[wage]);
        }
    }

    /** "0 for the hours 0 to 7 of each 24, 1 for 8 to 15, 2 for 16 to 23". */
    private static void watchesStartAgainEachDay() {
        HotBeds x = new HotBeds();
        int[] hours = {0, 7, 8, 15, 16, 23, 24, 31, 32, 39, 40, 47, 48, 71, 72};
        int[] watches = {0, 0, 1, 1, 2, 2, 0, 0, 1, 1, 2, 2, 0, 2, 0};
        for (int i = 0; i < hours.length; i++) {
            if (hours[i] > 0) {
                x.pass(hours[i] - hours[i - 1]);
            }
            Check.same("hour", x.count(0), hours[i]);
            Check.same("watch of hour " + hours[i], x.count(3), watches[i]);
        }
    }

    /** "Each has 8 hours, the first one has the remainder of 8 0": the pay comes in it, and in no other. */
    private static void firstHourHasRemainderZero() {
        HotBeds x = new HotBeds();
        for (int watch = 0; watch < 3; watch++) {
            x.sailor(watch, 0, 1, 0);
        }
        for (int hour = 0; hour < 50; hour++) {
            x.pass(1);
            Check.same("pays of watch 0 to hour " + hour, x.told(0, 3), 1 + hour / 24);
            Check.same("pays of watch 1 to hour " + hour, x.told(1, 3), (hour + 16) / 24);
            Check.same("pays of watch 2 to hour " + hour, x.told(2, 3), (hour + 8) / 24);
        }
    }

    /** "A warmth, 0 to 8 (0, at first)"; "2 warmer, at most 8; each other one gets 1 colder, at least 0". */
    private static void warmthIsZeroToEight() {
        HotBeds x = new HotBeds();
        x.bed(0);
        x.bed(9);
        Check.same("at first", x.about(0, 1), 0);
        x.pass(1);
        Check.same("not below 0", x.about(0, 1), 0);
        x.sailor(0, 0, 0, 0);
        x.pass(3);
        Check.same("6", x.about(0, 1), 6);
        x.call(0);
        x.sailor(0, 0, 0, 0);
        x.keep(0, 1);
        x.keep(1, 1);
        x.pass(1);
        Check.same("1 colder", x.about(0, 1), 5);
        x.keep(0, 0);
        x.call(0);
        x.pass(1);
        Check.same("from 5 to 7", x.about(0, 1), 7);
        x.pass(1);
        Check.same("from 7 to 8", x.about(0, 1), 8);
        x.pass(1);
        Check.same("8 yet", x.about(0, 1), 8);
        x.pass(1);
        Check.same("from 8 to 7", x.about(0, 1), 7);
        x.pass(6);
        Check.same("1", x.about(0, 1), 1);
        x.pass(1);
        Check.same("0", x.about(0, 1), 0);
        x.pass(1);
        Check.same("0 yet", x.about(0, 1), 0);
        Check.same("the other one, all the time", x.about(1, 1), 0);
    }

    /** "A purse with at most 99 coins (what would be more is lost)", however they come. */
    private static void purseHoldsNinetyNine() {
        int[] ahead = {92, 93, 94, 99};
        int[] behind = {98, 99, 99, 99};
        for (int i = 0; i < ahead.length; i++) {
            HotBeds x = new HotBeds();
            for (int sailor = 0; sailor < 3; sailor++) {
                x.sailor(0, 0, sailor == 2 ? 6 : 0, ahead[i]);
            }
            Check.same("6 given to " + ahead[i], x.give(0, 6), behind[i]);
            Check.same("a pawn of 6 to " + ahead[i], x.pawn(1), behind[i]);
            x.pass(1);
            Check.same("a wage of 6 to " + ahead[i], x.told(2, 3), behind[i]);
        }
        HotBeds x = new HotBeds();
        x.bed(1);
        x.sailor(0, 0, 20, 99);
        x.pass(1);
        Check.same("what is more is lost ahead of the price", x.told(0, 3), 98);
    }

    /** "At first": no kept bed, up, boots, rest 0, cold beds, a pawn of 6 and a bell of 5. */
    private static void whatIsSoAtFirst() {
        HotBeds x = new HotBeds();
        Check.same("the bell", x.count(8), 5);
        Check.same("the pawn", x.count(9), 6);
        x.pass(72);
        x.bed(4);
        x.sailor(1, 2, 3, 4);
        Check.about("a bed that is made late", x, 0, 4, 0, 0, 0, -1);
        Check.told("a sailor who is made late", x, 0, 1, 2, 3, 4, 1, -1, 0, -1, 0, 0, 0);
    }

    /** "It can be kept for several, and others may get into it". */
    private static void keptForSeveralAndOthersGetIn() {
        HotBeds x = new HotBeds();
        x.bed(0);
        x.bed(5);
        for (int sailor = 0; sailor < 3; sailor++) {
            x.sailor(0, 0, 0, 9);
        }
        x.keep(1, 0);
        x.keep(2, 0);
        Check.same("kept for one", x.told(1, 5), 0);
        Check.same("kept for another too", x.told(2, 5), 0);
        x.pass(1);
        Check.same("one for whom it is not kept gets into it", x.told(0, 7), 0);
        Check.same("the next one gets the other", x.told(1, 7), 1);
        Check.same("none is left", x.told(2, 6), 0);
        x.call(0);
        x.shift(0, 1);
        x.pass(1);
        Check.same("in a bed, one stays there", x.told(1, 7), 1);
        Check.same("the other one gets the kept bed", x.told(2, 7), 0);
    }

    private static void keptBedTakenAndNoOther() {
        HotBeds x = new HotBeds();
        x.bed(0);
        x.sailor(0, 0, 0, 0);
        x.sailor(0, 0, 0, 0);
        x.keep(1, 0);
        Check.same("nobody lies down for 4 hours", x.pass(4), 0);
        Check.same("waits", x.told(1, 6), 0);
        Check.same("lies down in the fifth", x.pass(1), 1);
        Check.same("it is kept yet", x.told(1, 5), 0);
    }

    /** "On the floor (till the bell, or a call)": a bed in which nobody is does not change it. */
    private static void onTheFloorTillTheBell() {
        HotBeds x = new HotBeds();
        x.sailor(0, 5, 0, 0);
        x.pass(5);
        x.bed(0);
        x.keep(0, 0);
        x.pass(3);
        Check.told("to the end of the watch", x, 0, 0, 5, 0, 0, 1, 0, 2, -1, 2, 0, 1);
        x.pass(1);
        Check.told("the bell", x, 0, 0, 5, 0, 0, 1, 0, 0, -1, 2, 0, 1);
    }

    private static void onTheFloorTillACall() {
        HotBeds x = new HotBeds();
        x.sailor(0, 5, 0, 0);
        x.pass(5);
        x.bed(0);
        x.call(0);
        Check.same("up in the call itself", x.told(0, 6), 0);
        x.pass(1);
        Check.told("a bed", x, 0, 0, 5, 0, 0, 1, -1, 1, 0, 1, 0, 1);
    }

    /** "As many coins as the pawn, 1 to 20"; "for the pawn, as it is then, and 2 more". */
    private static void leastAndGreatestPawn() {
        for (int pawn = 1; pawn <= 20; pawn++) {
            HotBeds x = new HotBeds();
            x.setPawn(pawn);
            x.sailor(0, 0, 0, 0);
            Check.same("a pawn of " + pawn, x.pawn(0), pawn);
            Check.fails("redeemed with " + pawn, x, STATE, () -> x.redeem(0));
            x.give(0, 1);
            Check.fails("redeemed with 1 more", x, STATE, () -> x.redeem(0));
            x.give(0, 1);
            Check.same("redeemed with 2 more", x.redeem(0), 0);
        }
    }

    private static void pawnAsItIsThen() {
        HotBeds x = new HotBeds();
        x.setPawn(20);
        x.sailor(0, 0, 0, 0);
        x.sailor(0, 0, 0, 0);
        x.pawn(0);
        x.setPawn(1);
        Check.same("cheaper by hand", x.redeem(0), 17);
        x.pawn(1);
        x.give(1, 20);
        x.setPawn(20);
        Check.fails("dearer by hand", x, STATE, () -> x.redeem(1));
        x.pass(1);
        Check.same("dearer in an hour", x.told(1, 4), 0);
        x.setPawn(19);
        x.pass(24);
        Check.same("just 21", x.told(1, 4), 1);
        Check.same("nothing is left", x.told(1, 3), 0);
    }

    /** "As heavily as this one sleeps, or more": each bell 0 to 9 with each sleeper 0 to 9, in a bed and on the floor. */
    private static void eachBellAndEachSleeper() {
        int[] lateBySilence = {0, 1, 1, 2, 2, 3, 3, 4, 4, 5};
        for (int bell = 0; bell <= 9; bell++) {
            for (int heavy = 0; heavy <= 9; heavy++) {
                int due = lateBySilence[Math.max(0, heavy - bell)];
                String what = "bell " + bell + ", heavy " + heavy;
                HotBeds x = new HotBeds();
                x.setBell(bell);
                x.bed(0);
                x.sailor(0, heavy, 0, 0);
                x.sailor(0, heavy, 0, 0);
                x.pass(8 + due);
                Check.same(what + ": in the bed", x.told(0, 6), 1);
                Check.same(what + ": on the floor", x.told(1, 6), 2);
                x.pass(1);
                Check.same(what + ": up from the bed", x.told(0, 6), 0);
                Check.same(what + ": up from the floor", x.told(1, 6), 0);
                x.pass(3);
                Check.same(what + ": late in the bed", x.told(0, 9), due);
                Check.same(what + ": late on the floor", x.told(1, 9), due);
            }
        }
    }

    /** "0 in the first hour behind it", which for the watch 2 is the hour 0 of the next day. */
    private static void bellBehindTheLastWatchOfTheDay() {
        HotBeds x = new HotBeds();
        x.setBell(3);
        x.bed(0);
        x.sailor(2, 3, 0, 0);
        x.sailor(2, 4, 0, 0);
        x.pass(24);
        Check.same("in the bed to the end of the day", x.told(0, 6), 1);
        Check.same("on the floor to the end of the day", x.told(1, 6), 2);
        x.pass(1);
        Check.same("3 is 3", x.told(0, 6), 0);
        Check.same("3 is less than 4", x.told(1, 6), 2);
        x.pass(1);
        Check.same("5 is not", x.told(1, 6), 0);
        Check.same("late for an hour", x.told(1, 9), 1);
    }

    /** The bell is rung for "who is in a bed or on the floor". */
    private static void whoIsUpIsNotLate() {
        HotBeds x = new HotBeds();
        x.setBell(0);
        x.sailor(1, 9, 0, 0);
        x.pass(8);
        Check.same("ahead of the watch", x.told(0, 9), 0);
        x.pass(8);
        x.call(0);
        x.pass(16);
        Check.same("called at the end of the watch", x.told(0, 9), 0);
    }

    /** Step 1 is ahead of step 2, for all sailors: a bed that is left in an hour is got into in it. */
    private static void bellAheadOfBeds() {
        HotBeds x = new HotBeds();
        x.bed(0);
        x.sailor(1, 0, 0, 0);
        x.sailor(0, 5, 0, 0);
        x.pass(8);
        Check.same("the greater number is in it", x.about(0, 4), 1);
        x.pass(1);
        Check.same("the smaller one gets into it", x.about(0, 4), 0);
        Check.same("the other one is up", x.told(1, 6), 0);
    }

    /** "Less 1 for each hour that this one was late since the last pay, at least 0". */
    private static void payAtLeastZero() {
        int[] due = {0, 0, 0, 1, 2};
        for (int wage = 0; wage < due.length; wage++) {
            HotBeds x = new HotBeds();
            x.bed(0);
            x.sailor(0, 9, wage, 0);
            x.pass(24);
            Check.same("late", x.told(0, 9), 2);
            Check.same("the first pay", x.told(0, 3), wage);
            x.pass(1);
            Check.same("a wage of " + wage + ", late for 2 hours", x.told(0, 3), wage + due[wage]);
        }
        HotBeds y = new HotBeds();
        y.bed(0);
        y.sailor(0, 9, 5, 0);
        y.pass(8);
        y.setPawn(1);
        y.pawn(0);
        y.setPawn(20);
        y.pass(17);
        Check.same("half of 5, less 2", y.told(0, 3), 6);
    }

    /** The pay that comes next is that of the watch that one is shifted to. */
    private static void lateHoursCountToTheNextPay() {
        HotBeds x = new HotBeds();
        x.bed(0);
        x.sailor(0, 9, 5, 0);
        x.pass(11);
        Check.same("late", x.told(0, 9), 2);
        x.shift(0, 2);
        x.pass(6);
        Check.same("5, and 2 less than 5", x.told(0, 3), 8);
        x.setBell(9);
        x.pass(24);
        Check.same("5 again", x.told(0, 3), 13);
        Check.same("late in all", x.told(0, 9), 2);
    }

    /** "Then boots in pawn are redeemed, if the purse has so much": with the pay, for the pawn and 2 more. */
    private static void redeemedJustWithSoMuch() {
        for (int purse = 6; purse <= 9; purse++) {
            HotBeds x = new HotBeds();
            x.setPawn(1);
            x.sailor(0, 0, 4, purse - 3);
            x.pawn(0);
            x.setPawn(6);
            x.pass(1);
            int behindPay = purse;
            boolean redeemed = behindPay >= 8;
            Check.same("boots with " + behindPay + " of 8", x.told(0, 4), redeemed ? 1 : 0);
            Check.same("purse with " + behindPay + " of 8", x.told(0, 3), redeemed ? behindPay - 8 : behindPay);
        }
    }

    private static void redeemedInTheFirstHourAlone() {
        HotBeds x = new HotBeds();
        x.sailor(0, 0, 0, 50);
        x.pass(1);
        x.pawn(0);
        x.pass(23);
        Check.same("not in a later hour of the watch", x.told(0, 4), 0);
        x.pass(1);
        Check.same("in the first one of the next", x.told(0, 4), 1);
        Check.same("with half of no wage", x.told(0, 3), 48);
    }

    /** Who redeems boots and has too little then for a bed pawns them again in the same hour. */
    private static void redeemedAndPawnedAgain() {
        HotBeds x = new HotBeds();
        x.bed(4);
        x.sailor(0, 0, 0, 2);
        x.pawn(0);
        x.pass(1);
        Check.told("8 coins, 0, 6, and 2", x, 0, 0, 0, 0, 2, 0, -1, 1, 0, 1, 0, 0);
    }

    /** "The cheapest one, of several the one with the smallest number". */
    private static void cheapestAndSmallestNumber() {
        int[][] prices = {{9, 9, 9}, {9, 0, 0}, {0, 9, 0}, {1, 1, 0}, {9, 8, 9}};
        int[] due = {0, 1, 0, 2, 1};
        for (int i = 0; i < prices.length; i++) {
            HotBeds x = new HotBeds();
            for (int price : prices[i]) {
                x.bed(price);
            }
            x.sailor(0, 0, 0, 9);
            x.pass(1);
            Check.same("bed", x.told(0, 7), due[i]);
        }
    }

    /** "If the purse has as much then, the price is paid": just so much, or 1 less, without boots. */
    private static void priceJustInThePurse() {
        for (int price = 0; price <= 9; price++) {
            HotBeds x = new HotBeds();
            x.setPawn(1);
            x.bed(price);
            x.bed(price);
            x.sailor(0, 0, 0, Math.max(0, price - 1));
            x.sailor(0, 0, 0, Math.max(0, price - 2));
            x.pawn(0);
            x.pawn(1);
            x.setPawn(20);
            x.pass(1);
            Check.same("price " + price + ": in a bed", x.told(0, 6), 1);
            Check.same("price " + price + ": paid", x.told(0, 3), price == 0 ? 1 : 0);
            Check.same("price " + price + ": 1 less", x.told(1, 6), price < 2 ? 1 : 2);
        }
    }

    /** "If the purse has less than its price, but would have as much with the pawn, boots (if there are any) are pawned". */
    private static void priceJustWithThePawn() {
        for (int pawn = 1; pawn <= 9; pawn++) {
            for (int purse = 0; purse <= 9; purse++) {
                HotBeds x = new HotBeds();
                x.setPawn(pawn);
                x.bed(9);
                x.sailor(0, 0, 0, purse);
                x.pass(1);
                boolean pawned = purse < 9 && purse + pawn >= 9;
                boolean inBed = purse == 9 || pawned;
                String what = "pawn " + pawn + ", purse " + purse;
                Check.same(what + ": place", x.told(0, 6), inBed ? 1 : 2);
                Check.same(what + ": boots", x.told(0, 4), pawned ? 0 : 1);
                Check.same(what + ": purse", x.told(0, 3), inBed ? purse + (pawned ? pawn : 0) - 9 : purse);
            }
        }
    }

    /** "Lies on the floor, if 4 hours or more of the watch went by; otherwise this one stays up". */
    private static void waitsForFourHours() {
        for (int watch = 0; watch < 3; watch++) {
            HotBeds x = new HotBeds();
            x.sailor(watch, 0, 0, 0);
            Check.same("3 hours of watch " + watch + " went by", x.pass(8 * watch + 4), 0);
            Check.same("4 hours of watch " + watch + " went by", x.pass(1), 1);
            Check.same("from the hour 5 of watch " + watch + " to the hour 3 of the next", x.pass(23), 0);
            Check.same("4 hours went by again", x.pass(1), 1);
        }
        for (int hour = 0; hour < 8; hour++) {
            HotBeds x = new HotBeds();
            if (hour > 0) {
                x.pass(hour);
            }
            x.sailor(0, 0, 0, 0);
            Check.same("the first hour is " + hour, x.pass(1), hour >= 4 ? 1 : 0);
        }
    }

    /** "Otherwise this one lies on the floor (no other bed is tried)", in any hour of the watch. */
    private static void poorLieDownAtOnce() {
        HotBeds x = new HotBeds();
        x.setPawn(1);
        x.bed(9);
        x.bed(0);
        x.sailor(0, 0, 0, 7);
        x.sailor(0, 0, 0, 8);
        x.keep(0, 0);
        Check.same("one lies down in the hour 0", x.pass(1), 1);
        Check.told("the kept bed is too dear", x, 0, 0, 0, 0, 7, 1, 0, 2, -1, 0, 0, 1);
        Check.told("the cheapest one is not", x, 1, 0, 0, 0, 8, 1, -1, 1, 1, 1, 0, 0);
    }

    private static void lyingDownIsCountedOnce() {
        HotBeds x = new HotBeds();
        x.sailor(0, 9, 0, 0);
        Check.same("once", x.pass(24), 1);
        Check.same("told", x.told(0, 10), 1);
        x.pass(5);
        Check.same("twice", x.told(0, 10), 2);
        x.call(0);
        x.pass(1);
        Check.same("called, and down again", x.told(0, 10), 3);
    }

    /** "Who is on the floor by 1 in hours that are odd", told by the hour as it is ahead of step 5. */
    private static void floorRestsInOddHours() {
        HotBeds x = new HotBeds();
        x.setBell(0);
        x.sailor(2, 5, 0, 0);
        x.pass(20);
        int[] rest = {0, 1, 1, 2, 2, 3, 3, 3};
        for (int i = 0; i < rest.length; i++) {
            x.pass(1);
            Check.same("rest behind hour " + (20 + i), x.told(0, 8), rest[i]);
        }
    }

    /** "By 1, but by 2 if its warmth is 4 or more", as warm as it is ahead of step 4. */
    private static void warmFromFourOn() {
        int[] due = {1, 1, 1, 1, 2, 2, 2, 2, 2};
        for (int warmth = 0; warmth < due.length; warmth++) {
            HotBeds x = new HotBeds();
            x.bed(0);
            x.sailor(0, 0, 0, 0);
            x.pass(16 - warmth);
            Check.same("warmth", x.about(0, 1), warmth);
            x.sailor(x.count(3), 0, 0, 0);
            x.pass(1);
            Check.same("rest at warmth " + warmth, x.told(1, 8), due[warmth]);
            Check.same("warmer", x.about(0, 1), Math.min(8, warmth + 2));
        }
    }

    /** "A method that throws an exception changes nothing": not even what is seen later alone. */
    private static void refusedCallsChangeNothing() {
        HotBeds x = refusingHouse();
        HotBeds twin = refusingHouse();
        Check.fails("a wrong price", x, ARGUMENT, () -> x.bed(10));
        Check.fails("a seventh bed", x, STATE, () -> x.bed(9));
        Check.fails("a wrong watch", x, OUT, () -> x.sailor(3, 0, 0, 0));
        Check.fails("too heavy", x, ARGUMENT, () -> x.sailor(0, 10, 0, 0));
        Check.fails("an eleventh sailor", x, STATE, () -> x.sailor(0, 0, 0, 0));
        Check.fails("no such bed", x, OUT, () -> x.keep(0, 6));
        Check.fails("no such sailor", x, OUT, () -> x.keep(10, 0));
        Check.fails("a wrong bell", x, ARGUMENT, () -> x.setBell(10));
        Check.fails("a wrong pawn", x, ARGUMENT, () -> x.setPawn(0));
        Check.fails("no coins", x, ARGUMENT, () -> x.give(0, 0));
        Check.fails("in pawn", x, STATE, () -> x.pawn(9));
        Check.fails("not in pawn", x, STATE, () -> x.redeem(0));
        Check.fails("too poor", x, STATE, () -> x.redeem(9));
        Check.fails("who is up", x, STATE, () -> x.call(9));
        Check.fails("in a bed", x, STATE, () -> x.shift(0, 1));
        Check.fails("a wrong watch to shift to", x, OUT, () -> x.shift(9, 3));
        Check.fails("no hours", x, ARGUMENT, () -> x.pass(0));
        Check.fails("too many hours", x, ARGUMENT, () -> x.pass(73));
        Check.fails("told", x, OUT, () -> x.told(0, 11));
        Check.fails("about", x, OUT, () -> x.about(0, 5));
        Check.fails("count", x, OUT, () -> x.count(10));
        Check.fails("would", x, ARGUMENT, () -> x.would(0, 73));
        Check.fails("until", x, OUT, () -> x.until(10));
        Check.fails("advise", x, STATE, () -> x.advise(0));
        for (int hour = 0; hour < 72; hour++) {
            Check.same("lying down", x.pass(1), twin.pass(1));
            Check.same("an hour on", x.digest(), twin.digest());
        }
    }

    /** 6 beds and 10 sailors: the first six late in them, the last one up, without boots and poor. */
    private static HotBeds refusingHouse() {
        HotBeds x = new HotBeds();
        for (int bed = 0; bed < 6; bed++) {
            x.bed(bed);
        }
        for (int sailor = 0; sailor < 9; sailor++) {
            x.sailor(0, 9, sailor, 9);
        }
        x.pass(9);
        x.sailor(2, 0, 0, 0);
        x.pawn(9);
        return x;
    }

    /** "If several exceptions apply, the one that is named first is thrown". */
    private static void firstNamedExceptionIsThrown() {
        HotBeds x = refusingHouse();
        Check.fails("bed: price, then number", x, ARGUMENT, () -> x.bed(-1));
        Check.fails("sailor: watch, then all else", x, OUT, () -> x.sailor(-1, -1, -1, -1));
        Check.fails("sailor: watch, then number", x, OUT, () -> x.sailor(3, 0, 0, 0));
        Check.fails("sailor: heavy, then number", x, ARGUMENT, () -> x.sailor(0, -1, 0, 0));
        Check.fails("sailor: wage, then number", x, ARGUMENT, () -> x.sailor(0, 0, -1, 0));
        Check.fails("sailor: purse, then number", x, ARGUMENT, () -> x.sailor(0, 0, 0, -1));
        Check.fails("give: sailor, then coins", x, OUT, () -> x.give(10, 100));
        Check.fails("give: sailor, then no coins", x, OUT, () -> x.give(-1, 0));
        Check.fails("shift: watch, then place", x, OUT, () -> x.shift(0, 3));
        Check.fails("shift: watch below 0, then place", x, OUT, () -> x.shift(0, -1));
        Check.fails("would: sailor, then hours", x, OUT, () -> x.would(10, 73));
        Check.fails("would: sailor below 0, then no hours", x, OUT, () -> x.would(-1, 0));
    }
}
