import java.util.ArrayList;
import java.util.List;

/**
 * The document once more, for the tests alone: told sentence by sentence, with an object for each bed and sailor
 * and a new copy for each question, so that it shares no way of working with the class that it is compared with.
 */
final class Model {
    private static final Class<?> OUT = IndexOutOfBoundsException.class;
    private static final Class<?> ARGUMENT = IllegalArgumentException.class;
    private static final Class<?> STATE = IllegalStateException.class;

    private static final class Bed {
        int price;
        int warmth;
        int entries;
        int coins;
        Sailor sleeper;
    }

    private static final class Sailor {
        int watch;
        int heavy;
        int wage;
        int purse;
        boolean boots = true;
        Bed kept;
        Bed bed;
        boolean onFloor;
        int rest;
        int late;
        int lateSincePay;
        int floors;

        boolean isUp() {
            return bed == null && !onFloor;
        }
    }

    private final List<Bed> beds = new ArrayList<>();
    private final List<Sailor> sailors = new ArrayList<>();
    private int hour;
    private int bell = 5;
    private int pawn = 6;

    /** The answer, an Integer, a Long or a Double; or the class of the exception, and nothing is changed. */
    Object make(String name, int... a) {
        Object refusal = refusal(name, a);
        return refusal != null ? refusal : answer(name, a);
    }

    private static boolean within(int number, int least, int most) {
        return least <= number && number <= most;
    }

    private boolean isSailor(int number) {
        return within(number, 0, sailors.size() - 1);
    }

    private boolean isBed(int number) {
        return within(number, 0, beds.size() - 1);
    }

    private Class<?> refusal(String name, int[] a) {
        switch (name) {
            case "bed":
                return !within(a[0], 0, 9) ? ARGUMENT : beds.size() == 6 ? STATE : null;
            case "sailor":
                return !within(a[0], 0, 2) ? OUT
                    : !within(a[1], 0, 9) || !within(a[2], 0, 20) || !within(a[3], 0, 99) ? ARGUMENT
                    : sailors.size() == 10 ? STATE : null;
            case "keep":
                return !isSailor(a[0]) || a[1] != -1 && !isBed(a[1]) ? OUT : null;
            case "setBell":
                return !within(a[0], 0, 9) ? ARGUMENT : null;
            case "setPawn":
                return !within(a[0], 1, 20) ? ARGUMENT : null;
            case "give":
                return !isSailor(a[0]) ? OUT : !within(a[1], 1, 99) ? ARGUMENT : null;
            case "pawn":
                return !isSailor(a[0]) ? OUT : !sailors.get(a[0]).boots ? STATE : null;
            case "redeem":
                return !isSailor(a[0]) ? OUT : !canRedeem(sailors.get(a[0])) ? STATE : null;
            case "call":
                return !isSailor(a[0]) ? OUT : sailors.get(a[0]).isUp() ? STATE : null;
            case "shift":
                return !isSailor(a[0]) || !within(a[1], 0, 2) ? OUT : !sailors.get(a[0]).isUp() ? STATE : null;
            case "pass":
                return !within(a[0], 1, 72) ? ARGUMENT : null;
            case "told":
                return !isSailor(a[0]) || !within(a[1], 0, 10) ? OUT : null;
            case "about":
                return !isBed(a[0]) || !within(a[1], 0, 4) ? OUT : null;
            case "count":
                return !within(a[0], 0, 9) ? OUT : null;
            case "would":
                return !isSailor(a[0]) ? OUT : !within(a[1], 1, 72) ? ARGUMENT : null;
            case "until":
                return !isSailor(a[0]) ? OUT : null;
            case "advise":
                return !isSailor(a[0]) ? OUT : !sailors.get(a[0]).isUp() ? STATE : null;
            default:
                return null;
        }
    }

    private Object answer(String name, int[] a) {
        int before;
        switch (name) {
            case "bed": return newBed(a[0]);
            case "sailor": return newSailor(a[0], a[1], a[2], a[3]);
            case "keep": return keep(sailors.get(a[0]), a[1]);
            case "setBell": before = bell; bell = a[0]; return before;
            case "setPawn": before = pawn; pawn = a[0]; return before;
            case "give": return earn(sailors.get(a[0]), a[1]);
            case "pawn": return pawnBoots(sailors.get(a[0]));
            case "redeem": return redeemBoots(sailors.get(a[0]));
            case "call": return getUp(sailors.get(a[0]));
            case "shift": before = sailors.get(a[0]).watch; sailors.get(a[0]).watch = a[1]; return before;
            case "pass": before = floors(); pass(a[0]); return floors() - before;
            case "told": return told(sailors.get(a[0]))[a[1]];
            case "about": return about(beds.get(a[0]))[a[1]];
            case "count": return counts()[a[0]];
            case "would": return restBehind(a[0], a[1]) - sailors.get(a[0]).rest;
            case "until": return until(a[0]);
            case "quiet": return quiet();
            case "advise": return advise(a[0], 48);
            case "mean": return mean();
            case "digest": return digest();
            default: throw new IllegalArgumentException(name);
        }
    }

    private int newBed(int price) {
        Bed bed = new Bed();
        bed.price = price;
        beds.add(bed);
        return beds.indexOf(bed);
    }

    private int newSailor(int watch, int heavy, int wage, int purse) {
        Sailor sailor = new Sailor();
        sailor.watch = watch;
        sailor.heavy = heavy;
        sailor.wage = wage;
        sailor.purse = purse;
        sailors.add(sailor);
        return sailors.indexOf(sailor);
    }

    private int keep(Sailor sailor, int bed) {
        int before = beds.indexOf(sailor.kept);
        sailor.kept = bed == -1 ? null : beds.get(bed);
        return before;
    }

    private static int earn(Sailor sailor, int coins) {
        sailor.purse += coins;
        if (sailor.purse > 99) {
            sailor.purse = 99;
        }
        return sailor.purse;
    }

    private int pawnBoots(Sailor sailor) {
        sailor.boots = false;
        return earn(sailor, pawn);
    }

    private boolean canRedeem(Sailor sailor) {
        return !sailor.boots && sailor.purse >= pawn + 2;
    }

    private int redeemBoots(Sailor sailor) {
        sailor.boots = true;
        sailor.purse -= pawn + 2;
        return sailor.purse;
    }

    private int getUp(Sailor sailor) {
        int bed = beds.indexOf(sailor.bed);
        if (sailor.bed != null) {
            sailor.bed.sleeper = null;
        }
        sailor.bed = null;
        sailor.onFloor = false;
        return bed;
    }

    private int watchOfHour() {
        int hourOfDay = hour % 24;
        return hourOfDay <= 7 ? 0 : hourOfDay <= 15 ? 1 : 2;
    }

    private void pass(int hours) {
        for (int i = 0; i < hours; i++) {
            ring();
            for (Sailor sailor : sailors) {
                if (sailor.watch == watchOfHour()) {
                    serve(sailor);
                }
            }
            rest();
            for (Bed bed : beds) {
                bed.warmth = bed.sleeper != null ? Math.min(8, bed.warmth + 2) : Math.max(0, bed.warmth - 1);
            }
            hour++;
        }
    }

    private void ring() {
        for (Sailor sailor : sailors) {
            if (sailor.isUp() || sailor.watch == watchOfHour()) {
                continue;
            }
            int since = 0;
            for (int h = hour - 1; watchAt(h) != sailor.watch; h--) {
                since++;
            }
            if (bell + 2 * since >= sailor.heavy) {
                getUp(sailor);
            } else {
                sailor.late++;
                sailor.lateSincePay++;
            }
        }
    }

    private static int watchAt(int hour) {
        return Math.floorMod(hour, 24) / 8;
    }

    private void serve(Sailor sailor) {
        if (hour % 8 == 0) {
            int wage = sailor.boots ? sailor.wage : sailor.wage / 2;
            wage -= sailor.lateSincePay;
            sailor.lateSincePay = 0;
            earn(sailor, wage < 0 ? 0 : wage);
            if (canRedeem(sailor)) {
                redeemBoots(sailor);
            }
        }
        if (sailor.isUp()) {
            look(sailor);
        }
    }

    private void look(Sailor sailor) {
        Bed bed = null;
        if (sailor.kept != null && sailor.kept.sleeper == null) {
            bed = sailor.kept;
        } else {
            for (int price = 9; price >= 0; price--) {
                for (int b = beds.size() - 1; b >= 0; b--) {
                    if (beds.get(b).sleeper == null && beds.get(b).price == price) {
                        bed = beds.get(b);
                    }
                }
            }
        }
        if (bed == null) {
            if (hour % 8 >= 4) {
                lieDown(sailor);
            }
            return;
        }
        if (sailor.purse < bed.price && sailor.boots && sailor.purse + pawn >= bed.price) {
            pawnBoots(sailor);
        }
        if (sailor.purse < bed.price) {
            lieDown(sailor);
            return;
        }
        sailor.purse -= bed.price;
        bed.coins += bed.price;
        bed.entries++;
        bed.sleeper = sailor;
        sailor.bed = bed;
    }

    private static void lieDown(Sailor sailor) {
        sailor.onFloor = true;
        sailor.floors++;
    }

    private void rest() {
        for (Sailor sailor : sailors) {
            if (sailor.bed != null) {
                sailor.rest += sailor.bed.warmth >= 4 ? 2 : 1;
            } else if (sailor.onFloor) {
                sailor.rest += hour % 2;
            }
        }
    }

    private int[] told(Sailor s) {
        return new int[] {s.watch, s.heavy, s.wage, s.purse, s.boots ? 1 : 0, beds.indexOf(s.kept),
            s.bed != null ? 1 : s.onFloor ? 2 : 0, beds.indexOf(s.bed), s.rest, s.late, s.floors};
    }

    private int[] about(Bed b) {
        return new int[] {b.price, b.warmth, b.entries, b.coins, sailors.indexOf(b.sleeper)};
    }

    private int[] counts() {
        int inBeds = 0;
        int onFloor = 0;
        for (Sailor sailor : sailors) {
            inBeds += sailor.bed != null ? 1 : 0;
            onFloor += sailor.onFloor ? 1 : 0;
        }
        return new int[] {hour, beds.size(), sailors.size(), watchOfHour(), inBeds, onFloor, late(), floors(), bell, pawn};
    }

    private int late() {
        int late = 0;
        for (Sailor sailor : sailors) {
            late += sailor.late;
        }
        return late;
    }

    private int floors() {
        int floors = 0;
        for (Sailor sailor : sailors) {
            floors += sailor.floors;
        }
        return floors;
    }

    private Model copy() {
        Model copy = new Model();
        copy.hour = hour;
        copy.bell = bell;
        copy.pawn = pawn;
        for (Bed bed : beds) {
            Bed b = copy.beds.get(copy.newBed(bed.price));
            b.warmth = bed.warmth;
        }
        for (Sailor sailor : sailors) {
            Sailor s = copy.sailors.get(copy.newSailor(sailor.watch, sailor.heavy, sailor.wage, sailor.purse));
            s.boots = sailor.boots;
            s.kept = sailor.kept == null ? null : copy.beds.get(beds.indexOf(sailor.kept));
            s.onFloor = sailor.onFloor;
            s.rest = sailor.rest;
            s.late = sailor.late;
            s.lateSincePay = sailor.lateSincePay;
            if (sailor.bed != null) {
                s.bed = copy.beds.get(beds.indexOf(sailor.bed));
                s.bed.sleeper = s;
            }
        }
        return copy;
    }

    private int restBehind(int sailor, int hours) {
        Model copy = copy();
        copy.pass(hours);
        return copy.sailors.get(sailor).rest;
    }

    private int until(int sailor) {
        Model copy = copy();
        for (int hours = 0; hours <= 48; hours++) {
            if (copy.sailors.get(sailor).bed != null) {
                return hours;
            }
            copy.pass(1);
        }
        return -1;
    }

    private int quiet() {
        for (int loud = 0; loud <= 9; loud++) {
            Model copy = copy();
            copy.bell = loud;
            copy.pass(48);
            if (copy.late() == late()) {
                return loud;
            }
        }
        return -1;
    }

    /** Behind 48 hours, but for the search of houses in which 47 or 49 would be answered otherwise. */
    int advise(int sailor, int hours) {
        int best = -1;
        int most = -1;
        for (int watch = 0; watch <= 2; watch++) {
            Model copy = copy();
            copy.sailors.get(sailor).watch = watch;
            int rest = copy.restBehind(sailor, hours);
            if (rest > most) {
                most = rest;
                best = watch;
            }
        }
        return best;
    }

    private double mean() {
        long rest = 0;
        for (Sailor sailor : sailors) {
            rest += sailor.rest;
        }
        return sailors.isEmpty() ? 0.0 : (double) rest / sailors.size();
    }

    private long digest() {
        long d = 1783;
        for (int x : counts()) {
            d = d * 31 + x;
        }
        for (Bed bed : beds) {
            for (int x : about(bed)) {
                d = d * 31 + x;
            }
        }
        for (Sailor sailor : sailors) {
            for (int x : told(sailor)) {
                d = d * 31 + x;
            }
        }
        return d;
    }
}
