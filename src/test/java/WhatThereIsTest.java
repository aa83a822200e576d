import java.math.BigInteger;

/** Promises 13 to 15 and 20, 21: told, about, count, mean, digest. */
public final class WhatThereIsTest {
    private static final Class<IndexOutOfBoundsException> OUT = IndexOutOfBoundsException.class;

    public static void main(String[] args) {
        toldAboutAndCount();
        toldRefuses();
        aboutRefuses();
        countRefuses();
        mean();
        digestOfAnEmptyHouse();
        digestOfAFullHouse();
        digestWrapsAround();
        digestOfBedsAloneAndSailorsAlone();
        Check.end();
    }

    /** 2 beds; in them a sailor who is late and one whose watch it is; one on the floor, one up. */
    private static HotBeds livelyHouse() {
        HotBeds x = new HotBeds();
        x.bed(2);
        x.bed(3);
        x.sailor(0, 9, 4, 1);
        x.sailor(1, 0, 5, 10);
        x.sailor(0, 8, 6, 20);
        x.sailor(2, 7, 1, 3);
        x.sailor(0, 9, 0, 0);
        x.keep(2, 1);
        x.keep(3, 0);
        x.setBell(4);
        x.setPawn(8);
        x.pass(10);
        return x;
    }

    private static void toldAboutAndCount() {
        HotBeds x = livelyHouse();
        Check.told("late in a bed", x, 0, 0, 9, 4, 3, 1, -1, 1, 0, 18, 2, 0);
        Check.told("waits", x, 1, 1, 0, 5, 15, 1, -1, 0, -1, 0, 0, 0);
        Check.told("late in the kept bed", x, 2, 0, 8, 6, 23, 1, 1, 1, 1, 18, 2, 0);
        Check.told("in no watch yet", x, 3, 2, 7, 1, 3, 1, 0, 0, -1, 0, 0, 0);
        Check.told("late on the floor", x, 4, 0, 9, 0, 0, 1, -1, 2, -1, 3, 2, 1);
        Check.about("the first bed", x, 0, 2, 8, 1, 2, 0);
        Check.about("the second bed", x, 1, 3, 8, 1, 3, 2);
        Check.counts("the house", x, 10, 2, 5, 1, 2, 1, 6, 1, 4, 8);
        x.pass(1);
        Check.counts("an hour on", x, 11, 2, 5, 1, 2, 1, 8, 1, 4, 8);
        Check.told("up at 8, and the bed is free", x, 2, 0, 8, 6, 23, 1, 1, 0, -1, 18, 2, 0);
        Check.told("got into it", x, 1, 1, 0, 5, 12, 1, -1, 1, 1, 2, 0, 0);
        Check.about("got into twice", x, 1, 3, 8, 2, 6, 1);
        x.pawn(3);
        Check.told("boots in pawn", x, 3, 2, 7, 1, 11, 0, 0, 0, -1, 0, 0, 0);
    }

    private static void toldRefuses() {
        HotBeds x = livelyHouse();
        for (int what : new int[] {-1, 11, Integer.MIN_VALUE, Integer.MAX_VALUE}) {
            Check.fails("told(0, " + what + ")", x, OUT, () -> x.told(0, what));
        }
        for (int sailor : new int[] {-1, 5, 10, Integer.MIN_VALUE, Integer.MAX_VALUE}) {
            Check.fails("told(" + sailor + ", 0)", x, OUT, () -> x.told(sailor, 0));
        }
    }

    private static void aboutRefuses() {
        HotBeds x = livelyHouse();
        for (int what : new int[] {-1, 5, Integer.MIN_VALUE, Integer.MAX_VALUE}) {
            Check.fails("about(0, " + what + ")", x, OUT, () -> x.about(0, what));
        }
        for (int bed : new int[] {-1, 2, 6, Integer.MIN_VALUE, Integer.MAX_VALUE}) {
            Check.fails("about(" + bed + ", 0)", x, OUT, () -> x.about(bed, 0));
        }
    }

    private static void countRefuses() {
        HotBeds x = livelyHouse();
        for (int what : new int[] {-1, 10, Integer.MIN_VALUE, Integer.MAX_VALUE}) {
            Check.fails("count(" + what + ")", x, OUT, () -> x.count(what));
        }
    }

    private static void mean() {
        HotBeds x = new HotBeds();
        Check.sameMean("mean without any", x.mean(), 0.0);
        x.bed(0);
        Check.sameMean("mean with a bed alone", x.mean(), 0.0);
        x.sailor(0, 0, 0, 0);
        Check.sameMean("mean at first", x.mean(), 0.0);
        x.pass(8);
        Check.sameMean("mean of one", x.mean(), 14.0);
        x.sailor(2, 0, 0, 0);
        Check.sameMean("mean of two", x.mean(), 7.0);
        x.sailor(2, 0, 0, 0);
        Check.sameMean("mean of three", x.mean(), 14.0 / 3.0);
        x.pass(10);
        Check.sameMean("two of them rest in turn", x.mean(), 16.0 / 3.0);
    }

    private static void digestOfAnEmptyHouse() {
        Check.same("digest of an empty house", new HotBeds().digest(), digest(0, 0, 0, 0, 0, 0, 0, 0, 5, 6));
    }

    private static void digestOfAFullHouse() {
        HotBeds x = livelyHouse();
        long d = digest(
            10, 2, 5, 1, 2, 1, 6, 1, 4, 8,
            2, 8, 1, 2, 0,
            3, 8, 1, 3, 2,
            0, 9, 4, 3, 1, -1, 1, 0, 18, 2, 0,
            1, 0, 5, 15, 1, -1, 0, -1, 0, 0, 0,
            0, 8, 6, 23, 1, 1, 1, 1, 18, 2, 0,
            2, 7, 1, 3, 1, 0, 0, -1, 0, 0, 0,
            0, 9, 0, 0, 1, -1, 2, -1, 3, 2, 1);
        Check.same("digest", x.digest(), d);
        Check.same("digest changes nothing", x.digest(), d);
    }

    /** "Wraps around as a 64-bit integer": reckoned without bounds, and cut to the last 64 bits. */
    private static void digestWrapsAround() {
        HotBeds x = livelyHouse();
        BigInteger d = BigInteger.valueOf(1783);
        for (int what = 0; what <= 9; what++) {
            d = behind(d, x.count(what));
        }
        Check.same("10 numbers need no wrapping", d.bitLength() < 64 ? 1 : 0, 1);
        for (int bed = 0; bed < 2; bed++) {
            for (int what = 0; what <= 4; what++) {
                d = behind(d, x.about(bed, what));
            }
        }
        for (int sailor = 0; sailor < 5; sailor++) {
            for (int what = 0; what <= 10; what++) {
                d = behind(d, x.told(sailor, what));
            }
        }
        Check.same("75 numbers do", d.bitLength() > 64 ? 1 : 0, 1);
        Check.same("digest", x.digest(), d.longValue());
    }

    private static BigInteger behind(BigInteger d, int number) {
        return d.multiply(BigInteger.valueOf(31)).add(BigInteger.valueOf(number));
    }

    private static void digestOfBedsAloneAndSailorsAlone() {
        HotBeds beds = new HotBeds();
        beds.bed(7);
        Check.same("a bed alone", beds.digest(), digest(0, 1, 0, 0, 0, 0, 0, 0, 5, 6, 7, 0, 0, 0, -1));
        HotBeds sailors = new HotBeds();
        sailors.sailor(2, 9, 20, 99);
        Check.same("a sailor alone", sailors.digest(),
            digest(0, 0, 1, 0, 0, 0, 0, 0, 5, 6, 2, 9, 20, 99, 1, -1, 0, -1, 0, 0, 0));
    }

    private static long digest(int... numbers) {
        long d = 1783;
        for (int number : numbers) {
            d = d * 31 + number;
        }
        return d;
    }
}
