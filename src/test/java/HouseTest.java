/** Promises 1 to 6: a new object, bed, sailor, keep, setBell, setPawn. */
public final class HouseTest {
    private static final Class<IndexOutOfBoundsException> OUT = IndexOutOfBoundsException.class;
    private static final Class<IllegalArgumentException> ARGUMENT = IllegalArgumentException.class;
    private static final Class<IllegalStateException> STATE = IllegalStateException.class;

    public static void main(String[] args) {
        newObject();
        objectsAreApart();
        bedsGetNumbers();
        bedRefuses();
        sailorsGetNumbers();
        sailorRefuses();
        keepAnswersTheOneBefore();
        keepIsTheFirstChoice();
        keepRefuses();
        bellIsSet();
        pawnIsSet();
        Check.end();
    }

    private static void newObject() {
        HotBeds x = new HotBeds();
        Check.counts("new", x, 0, 0, 0, 0, 0, 0, 0, 0, 5, 6);
        Check.fails("a bed of a new house", x, OUT, () -> x.about(0, 0));
        Check.fails("a sailor of a new house", x, OUT, () -> x.told(0, 0));
        Check.same("an empty house lets hours go by", x.pass(72), 0);
        Check.counts("new, 72 hours on", x, 72, 0, 0, 0, 0, 0, 0, 0, 5, 6);
    }

    private static void objectsAreApart() {
        HotBeds x = new HotBeds();
        HotBeds y = new HotBeds();
        x.bed(3);
        x.sailor(0, 1, 2, 3);
        x.setBell(9);
        x.setPawn(20);
        x.pass(5);
        Check.counts("the other one", y, 0, 0, 0, 0, 0, 0, 0, 0, 5, 6);
    }

    private static void bedsGetNumbers() {
        HotBeds x = new HotBeds();
        int[] prices = {0, 9, 4, 4, 1, 8};
        for (int i = 0; i < prices.length; i++) {
            Check.same("bed", x.bed(prices[i]), i);
            Check.about("new bed", x, i, prices[i], 0, 0, 0, -1);
            Check.same("beds", x.count(1), i + 1);
        }
    }

    private static void bedRefuses() {
        HotBeds x = new HotBeds();
        for (int price : new int[] {-1, 10, Integer.MIN_VALUE, Integer.MAX_VALUE}) {
            Check.fails("bed(" + price + ")", x, ARGUMENT, () -> x.bed(price));
        }
        for (int i = 0; i < 6; i++) {
            x.bed(i);
        }
        Check.fails("a seventh bed", x, STATE, () -> x.bed(0));
        Check.fails("a seventh bed with a wrong price", x, ARGUMENT, () -> x.bed(10));
        Check.same("beds", x.count(1), 6);
    }

    private static void sailorsGetNumbers() {
        HotBeds x = new HotBeds();
        Check.same("sailor", x.sailor(0, 0, 0, 0), 0);
        Check.told("the least", x, 0, 0, 0, 0, 0, 1, -1, 0, -1, 0, 0, 0);
        Check.same("sailor", x.sailor(2, 9, 20, 99), 1);
        Check.told("the most", x, 1, 2, 9, 20, 99, 1, -1, 0, -1, 0, 0, 0);
        Check.same("sailor", x.sailor(1, 3, 7, 11), 2);
        Check.told("one between", x, 2, 1, 3, 7, 11, 1, -1, 0, -1, 0, 0, 0);
        for (int i = 3; i < 10; i++) {
            Check.same("sailor", x.sailor(i % 3, i, i, i), i);
            Check.same("sailors", x.count(2), i + 1);
        }
    }

    private static void sailorRefuses() {
        HotBeds x = new HotBeds();
        for (int watch : new int[] {-1, 3, Integer.MIN_VALUE, Integer.MAX_VALUE}) {
            Check.fails("watch " + watch, x, OUT, () -> x.sailor(watch, 0, 0, 0));
        }
        for (int heavy : new int[] {-1, 10, Integer.MIN_VALUE, Integer.MAX_VALUE}) {
            Check.fails("heavy " + heavy, x, ARGUMENT, () -> x.sailor(0, heavy, 0, 0));
        }
        for (int wage : new int[] {-1, 21, Integer.MIN_VALUE, Integer.MAX_VALUE}) {
            Check.fails("wage " + wage, x, ARGUMENT, () -> x.sailor(0, 0, wage, 0));
        }
        for (int purse : new int[] {-1, 100, Integer.MIN_VALUE, Integer.MAX_VALUE}) {
            Check.fails("purse " + purse, x, ARGUMENT, () -> x.sailor(0, 0, 0, purse));
        }
        Check.fails("a wrong watch is named first", x, OUT, () -> x.sailor(3, 10, 21, 100));
        for (int i = 0; i < 10; i++) {
            x.sailor(0, 0, 0, 0);
        }
        Check.fails("an eleventh", x, STATE, () -> x.sailor(0, 0, 0, 0));
        Check.fails("an eleventh of a wrong watch", x, OUT, () -> x.sailor(-1, 0, 0, 0));
        Check.fails("an eleventh, too heavy", x, ARGUMENT, () -> x.sailor(0, 10, 0, 0));
        Check.fails("an eleventh, wage too high", x, ARGUMENT, () -> x.sailor(0, 0, 21, 0));
        Check.fails("an eleventh, too rich", x, ARGUMENT, () -> x.sailor(0, 0, 0, 100));
        Check.same("sailors", x.count(2), 10);
    }

    private static void keepAnswersTheOneBefore() {
        HotBeds x = new HotBeds();
        x.sailor(0, 0, 0, 0);
        Check.same("none yet, none from now on", x.keep(0, -1), -1);
        x.bed(1);
        x.bed(2);
        Check.same("keep", x.keep(0, 1), -1);
        Check.same("it is told", x.told(0, 5), 1);
        Check.same("keep", x.keep(0, 0), 1);
        Check.same("keep", x.keep(0, -1), 0);
        Check.same("it is told", x.told(0, 5), -1);
    }

    private static void keepIsTheFirstChoice() {
        HotBeds x = new HotBeds();
        x.bed(0);
        x.bed(5);
        x.bed(1);
        for (int i = 0; i < 4; i++) {
            x.sailor(0, 0, 20, 0);
        }
        x.keep(1, 1);
        x.keep(2, 1);
        x.keep(3, 0);
        x.pass(1);
        Check.same("the cheapest one", x.told(0, 7), 0);
        Check.same("the one that is kept, though it is the dearest", x.told(1, 7), 1);
        Check.same("kept for two: the second one gets another", x.told(2, 7), 2);
        Check.same("others got into all", x.told(3, 6), 0);
        x.keep(1, 0);
        x.pass(1);
        Check.same("who is in a bed stays there", x.told(1, 7), 1);
    }

    private static void keepRefuses() {
        HotBeds x = new HotBeds();
        Check.fails("no sailor", x, OUT, () -> x.keep(0, -1));
        x.sailor(0, 0, 0, 0);
        Check.fails("no bed", x, OUT, () -> x.keep(0, 0));
        x.bed(0);
        for (int bed : new int[] {-2, 1, 6, Integer.MIN_VALUE, Integer.MAX_VALUE}) {
            Check.fails("bed " + bed, x, OUT, () -> x.keep(0, bed));
        }
        for (int sailor : new int[] {-1, 1, 10, Integer.MIN_VALUE, Integer.MAX_VALUE}) {
            Check.fails("sailor " + sailor, x, OUT, () -> x.keep(sailor, 0));
        }
    }

    private static void bellIsSet() {
        HotBeds x = new HotBeds();
        Check.same("at first", x.setBell(0), 5);
        Check.same("told", x.count(8), 0);
        Check.same("before", x.setBell(9), 0);
        Check.same("told", x.count(8), 9);
        for (int bell : new int[] {-1, 10, Integer.MIN_VALUE, Integer.MAX_VALUE}) {
            Check.fails("setBell(" + bell + ")", x, ARGUMENT, () -> x.setBell(bell));
        }
        Check.same("before", x.setBell(9), 9);
        x.bed(0);
        x.sailor(0, 9, 0, 0);
        x.pass(9);
        Check.same("so loud that all hear it", x.told(0, 6), 0);
    }

    private static void pawnIsSet() {
        HotBeds x = new HotBeds();
        Check.same("at first", x.setPawn(1), 6);
        Check.same("told", x.count(9), 1);
        Check.same("before", x.setPawn(20), 1);
        Check.same("told", x.count(9), 20);
        for (int pawn : new int[] {0, -1, 21, Integer.MIN_VALUE, Integer.MAX_VALUE}) {
            Check.fails("setPawn(" + pawn + ")", x, ARGUMENT, () -> x.setPawn(pawn));
        }
        Check.same("before", x.setPawn(7), 20);
        x.sailor(0, 0, 0, 50);
        Check.same("as many coins as the pawn", x.pawn(0), 57);
        x.setPawn(10);
        Check.same("the pawn as it is then, and 2 more", x.redeem(0), 45);
    }
}
