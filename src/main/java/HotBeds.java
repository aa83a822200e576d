/** A lodging house with hot beds: sailors sleep in three watches in the same beds. */
public final class HotBeds {
    private static final int MOST_PRICE = 9;
    private static final int MOST_HEAVY = 9;
    private static final int MOST_WAGE = 20;
    private static final int MOST_BELL = 9;
    private static final int MOST_PAWN = 20;
    private static final int MOST_HOURS = 72;
    private static final int FORESEEN_HOURS = 48;
    private static final int COUNT_ANSWERS = 10;
    private static final int BED_ANSWERS = 5;
    private static final int SAILOR_ANSWERS = 11;
    private static final long DIGEST_START = 1783L;
    private static final long DIGEST_FACTOR = 31L;

    private final House house;
    /** Made once and overwritten by each question, so that questions make no objects. */
    private final House trial;

    public HotBeds() {
        house = new House();
        trial = new House();
    }

    // ---- the house

    public int bed(int price) throws IllegalArgumentException, IllegalStateException {
        if (price < 0 || price > MOST_PRICE) {
            throw new IllegalArgumentException("the price is not 0 to 9");
        }
        return house.beds.add(price);
    }

    public int sailor(int watch, int heavy, int wage, int purse)
            throws IndexOutOfBoundsException, IllegalArgumentException, IllegalStateException {
        requireWatch(watch);
        if (heavy < 0 || heavy > MOST_HEAVY) {
            throw new IllegalArgumentException("how heavily the sailor sleeps is not 0 to 9");
        }
        if (wage < 0 || wage > MOST_WAGE) {
            throw new IllegalArgumentException("the wage is not 0 to 20");
        }
        if (purse < 0 || purse > Sailors.MOST_COINS) {
            throw new IllegalArgumentException("the purse is not 0 to 99");
        }
        return house.sailors.add(watch, heavy, wage, purse);
    }

    public int keep(int sailor, int bed) throws IndexOutOfBoundsException {
        requireSailor(sailor);
        if (bed != Beds.NONE) {
            requireBed(bed);
        }
        int before = house.sailors.kept[sailor];
        house.sailors.kept[sailor] = bed;
        return before;
    }

    public int setBell(int bell) throws IllegalArgumentException {
        if (bell < 0 || bell > MOST_BELL) {
            throw new IllegalArgumentException("the bell is not 0 to 9");
        }
        int before = house.bell;
        house.bell = bell;
        return before;
    }

    public int setPawn(int pawn) throws IllegalArgumentException {
        if (pawn < 1 || pawn > MOST_PAWN) {
            throw new IllegalArgumentException("the pawn is not 1 to 20");
        }
        int before = house.pawn;
        house.pawn = pawn;
        return before;
    }

    // ---- by hand

    public int give(int sailor, int coins) throws IndexOutOfBoundsException, IllegalArgumentException {
        requireSailor(sailor);
        if (coins < 1 || coins > Sailors.MOST_COINS) {
            throw new IllegalArgumentException("the coins are not 1 to 99");
        }
        house.sailors.earn(sailor, coins);
        return house.sailors.purse[sailor];
    }

    public int pawn(int sailor) throws IndexOutOfBoundsException, IllegalStateException {
        requireSailor(sailor);
        if (!house.sailors.hasBoots(sailor)) {
            throw new IllegalStateException("the boots are in pawn");
        }
        house.pawnBoots(sailor);
        return house.sailors.purse[sailor];
    }

    public int redeem(int sailor) throws IndexOutOfBoundsException, IllegalStateException {
        requireSailor(sailor);
        if (!house.canRedeemBoots(sailor)) {
            throw new IllegalStateException("the boots are not in pawn, or the purse has not so much");
        }
        house.redeemBoots(sailor);
        return house.sailors.purse[sailor];
    }

    public int call(int sailor) throws IndexOutOfBoundsException, IllegalStateException {
        requireSailor(sailor);
        if (house.sailors.isUp(sailor)) {
            throw new IllegalStateException("the sailor is up");
        }
        int left = house.sailors.bed[sailor];
        house.getUp(sailor);
        return left;
    }

    public int shift(int sailor, int watch) throws IndexOutOfBoundsException, IllegalStateException {
        requireSailor(sailor);
        requireWatch(watch);
        requireUp(sailor);
        int before = house.sailors.watch[sailor];
        house.sailors.watch[sailor] = watch;
        return before;
    }

    // ---- hours

    public int pass(int hours) throws IllegalArgumentException {
        requireHours(hours);
        int before = house.sailors.allFloors();
        house.goOn(hours);
        return house.sailors.allFloors() - before;
    }

    // ---- what there is

    public int told(int sailor, int what) throws IndexOutOfBoundsException {
        requireSailor(sailor);
        Sailors sailors = house.sailors;
        switch (what) {
            case 0: return sailors.watch[sailor];
            case 1: return sailors.heavy[sailor];
            case 2: return sailors.wage[sailor];
            case 3: return sailors.purse[sailor];
            case 4: return sailors.boots[sailor];
            case 5: return sailors.kept[sailor];
            case 6: return sailors.place[sailor];
            case 7: return sailors.bed[sailor];
            case 8: return sailors.rest[sailor];
            case 9: return sailors.late[sailor];
            case 10: return sailors.floors[sailor];
            default: throw new IndexOutOfBoundsException("what is told of a sailor is not 0 to 10");
        }
    }

    public int about(int bed, int what) throws IndexOutOfBoundsException {
        requireBed(bed);
        Beds beds = house.beds;
        switch (what) {
            case 0: return beds.price[bed];
            case 1: return beds.warmth[bed];
            case 2: return beds.entries[bed];
            case 3: return beds.paid[bed];
            case 4: return beds.sleeper[bed];
            default: throw new IndexOutOfBoundsException("what is told about a bed is not 0 to 4");
        }
    }

    public int count(int what) throws IndexOutOfBoundsException {
        switch (what) {
            case 0: return house.hour;
            case 1: return house.beds.size;
            case 2: return house.sailors.size;
            case 3: return house.watchNow();
            case 4: return house.sailors.howManyAt(Sailors.IN_BED);
            case 5: return house.sailors.howManyAt(Sailors.ON_FLOOR);
            case 6: return house.sailors.allLate();
            case 7: return house.sailors.allFloors();
            case 8: return house.bell;
            case 9: return house.pawn;
            default: throw new IndexOutOfBoundsException("what is counted is not 0 to 9");
        }
    }

    // ---- what would be

    public int would(int sailor, int hours) throws IndexOutOfBoundsException, IllegalArgumentException {
        requireSailor(sailor);
        requireHours(hours);
        trial.copyFrom(house);
        trial.goOn(hours);
        return trial.sailors.rest[sailor] - house.sailors.rest[sailor];
    }

    public int until(int sailor) throws IndexOutOfBoundsException {
        requireSailor(sailor);
        trial.copyFrom(house);
        for (int hours = 0; hours <= FORESEEN_HOURS; hours++) {
            if (trial.sailors.place[sailor] == Sailors.IN_BED) {
                return hours;
            }
            trial.goOn(1);
        }
        return -1;
    }

    public int quiet() {
        int lateNow = house.sailors.allLate();
        for (int bell = 0; bell <= MOST_BELL; bell++) {
            trial.copyFrom(house);
            trial.bell = bell;
            trial.goOn(FORESEEN_HOURS);
            if (trial.sailors.allLate() == lateNow) {
                return bell;
            }
        }
        return -1;
    }

    public int advise(int sailor) throws IndexOutOfBoundsException, IllegalStateException {
        requireSailor(sailor);
        requireUp(sailor);
        int best = 0;
        int bestRest = -1;
        for (int watch = 0; watch < House.WATCHES; watch++) {
            trial.copyFrom(house);
            trial.sailors.watch[sailor] = watch;
            trial.goOn(FORESEEN_HOURS);
            int rest = trial.sailors.rest[sailor];
            if (rest > bestRest) {
                best = watch;
                bestRest = rest;
            }
        }
        return best;
    }

    public double mean() {
        Sailors sailors = house.sailors;
        if (sailors.size <= 0) {
            return 0.0;
        }
        return (double) sailors.allRest() / (double) sailors.size;
    }

    public long digest() {
        long d = DIGEST_START;
        for (int what = 0; what < COUNT_ANSWERS; what++) {
            d = d * DIGEST_FACTOR + count(what);
        }
        for (int bed = 0; bed < house.beds.size; bed++) {
            for (int what = 0; what < BED_ANSWERS; what++) {
                d = d * DIGEST_FACTOR + about(bed, what);
            }
        }
        for (int sailor = 0; sailor < house.sailors.size; sailor++) {
            for (int what = 0; what < SAILOR_ANSWERS; what++) {
                d = d * DIGEST_FACTOR + told(sailor, what);
            }
        }
        return d;
    }

    private void requireSailor(int sailor) {
        if (sailor < 0 || sailor >= house.sailors.size) {
            throw new IndexOutOfBoundsException("there is no such sailor");
        }
    }

    private void requireBed(int bed) {
        if (!house.beds.has(bed)) {
            throw new IndexOutOfBoundsException("there is no such bed");
        }
    }

    private static void requireWatch(int watch) {
        if (watch < 0 || watch >= House.WATCHES) {
            throw new IndexOutOfBoundsException("the watch is not 0 to 2");
        }
    }

    private void requireUp(int sailor) {
        if (!house.sailors.isUp(sailor)) {
            throw new IllegalStateException("the sailor is not up");
        }
    }

    private static void requireHours(int hours) {
        if (hours < 1 || hours > MOST_HOURS) {
            throw new IllegalArgumentException("the hours are not 1 to 72");
        }
    }

    /** Both rows have the same length; both are tested, so that neither can be overrun. */
    private static void copyRow(int[] from, int[] to) {
        for (int i = 0; i < from.length && i < to.length; i++) {
            to[i] = from[i];
        }
    }

    /** The beds, a row for each thing that is known of them. */
    private static final class Beds {
        static final int MOST = 6;
        static final int NONE = -1;
        static final int NOBODY = -1;
        static final int MOST_WARMTH = 8;
        static final int WARM = 4;

        int size = 0;
        final int[] price = new int[MOST];
        final int[] warmth = new int[MOST];
        final int[] entries = new int[MOST];
        final int[] paid = new int[MOST];
        final int[] sleeper = new int[MOST];

        int add(int itsPrice) {
            if (size >= MOST) {
                throw new IllegalStateException("there are 6 beds");
            }
            int bed = size;
            price[bed] = itsPrice;
            sleeper[bed] = NOBODY;
            size = bed + 1;
            return bed;
        }

        void copyFrom(Beds other) {
            size = other.size;
            copyRow(other.price, price);
            copyRow(other.warmth, warmth);
            copyRow(other.entries, entries);
            copyRow(other.paid, paid);
            copyRow(other.sleeper, sleeper);
        }

        boolean has(int bed) {
            return bed >= 0 && bed < size;
        }

        boolean isFree(int bed) {
            return has(bed) && sleeper[bed] == NOBODY;
        }

        boolean isWarm(int bed) {
            return has(bed) && warmth[bed] >= WARM;
        }

        int cheapestFree() {
            int best = NONE;
            for (int bed = 0; bed < size; bed++) {
                if (isFree(bed) && (best == NONE || price[bed] < price[best])) {
                    best = bed;
                }
            }
            return best;
        }

        void changeWarmth() {
            for (int bed = 0; bed < size; bed++) {
                if (sleeper[bed] == NOBODY) {
                    warmth[bed] = Math.max(0, warmth[bed] - 1);
                } else {
                    warmth[bed] = Math.min(MOST_WARMTH, warmth[bed] + 2);
                }
            }
        }
    }

    /** The sailors, a row for each thing that is known of them. */
    private static final class Sailors {
        static final int MOST = 10;
        static final int MOST_COINS = 99;
        static final int UP = 0;
        static final int IN_BED = 1;
        static final int ON_FLOOR = 2;

        int size = 0;
        final int[] watch = new int[MOST];
        final int[] heavy = new int[MOST];
        final int[] wage = new int[MOST];
        final int[] purse = new int[MOST];
        /** 1 with boots, 0 if they are in pawn. */
        final int[] boots = new int[MOST];
        final int[] kept = new int[MOST];
        final int[] place = new int[MOST];
        final int[] bed = new int[MOST];
        final int[] rest = new int[MOST];
        final int[] late = new int[MOST];
        final int[] lateSincePay = new int[MOST];
        final int[] floors = new int[MOST];

        int add(int itsWatch, int itsHeavy, int itsWage, int itsPurse) {
            if (size >= MOST) {
                throw new IllegalStateException("there are 10 sailors");
            }
            int sailor = size;
            watch[sailor] = itsWatch;
            heavy[sailor] = itsHeavy;
            wage[sailor] = itsWage;
            purse[sailor] = itsPurse;
            boots[sailor] = 1;
            kept[sailor] = Beds.NONE;
            place[sailor] = UP;
            bed[sailor] = Beds.NONE;
            size = sailor + 1;
            return sailor;
        }

        void copyFrom(Sailors other) {
            size = other.size;
            copyRow(other.watch, watch);
            copyRow(other.heavy, heavy);
            copyRow(other.wage, wage);
            copyRow(other.purse, purse);
            copyRow(other.boots, boots);
            copyRow(other.kept, kept);
            copyRow(other.place, place);
            copyRow(other.bed, bed);
            copyRow(other.rest, rest);
            copyRow(other.late, late);
            copyRow(other.lateSincePay, lateSincePay);
            copyRow(other.floors, floors);
        }

        boolean isUp(int sailor) {
            return place[sailor] == UP;
        }

        boolean hasBoots(int sailor) {
            return boots[sailor] == 1;
        }

        void earn(int sailor, int coins) {
            purse[sailor] = Math.min(MOST_COINS, purse[sailor] + coins);
        }

        void beLate(int sailor) {
            late[sailor]++;
            lateSincePay[sailor]++;
        }

        void lieOnFloor(int sailor) {
            place[sailor] = ON_FLOOR;
            floors[sailor]++;
        }

        void payWage(int sailor) {
            int whole = hasBoots(sailor) ? wage[sailor] : wage[sailor] / 2;
            earn(sailor, Math.max(0, whole - lateSincePay[sailor]));
            lateSincePay[sailor] = 0;
        }

        int howManyAt(int where) {
            int many = 0;
            for (int sailor = 0; sailor < size; sailor++) {
                if (place[sailor] == where) {
                    many++;
                }
            }
            return many;
        }

        int allRest() {
            return sum(rest);
        }

        int allLate() {
            return sum(late);
        }

        int allFloors() {
            return sum(floors);
        }

        private int sum(int[] row) {
            int all = 0;
            for (int sailor = 0; sailor < size && sailor < row.length; sailor++) {
                all += row[sailor];
            }
            return all;
        }
    }

    /** All that an hour reads or changes, so that a copy of it can go on alone. */
    private static final class House {
        static final int WATCHES = 3;
        static final int WATCH_HOURS = 8;
        static final int DAY_HOURS = 24;
        static final int WAITED_HOURS = 4;
        static final int LOUDER_BY_HOUR = 2;
        static final int REDEEM_MORE = 2;

        int hour = 0;
        int bell = 5;
        int pawn = 6;
        final Beds beds = new Beds();
        final Sailors sailors = new Sailors();

        void copyFrom(House other) {
            hour = other.hour;
            bell = other.bell;
            pawn = other.pawn;
            beds.copyFrom(other.beds);
            sailors.copyFrom(other.sailors);
        }

        int watchNow() {
            return hour % DAY_HOURS / WATCH_HOURS;
        }

        void goOn(int hours) {
            for (int i = 0; i < hours; i++) {
                for (int sailor = 0; sailor < sailors.size; sailor++) {
                    ringBell(sailor);
                }
                // Each sailor is served wholly ahead of the next, who finds what is left.
                for (int sailor = 0; sailor < sailors.size; sailor++) {
                    serve(sailor);
                }
                for (int sailor = 0; sailor < sailors.size; sailor++) {
                    sailors.rest[sailor] += restOfHour(sailor);
                }
                beds.changeWarmth();
                hour++;
            }
        }

        void getUp(int sailor) {
            int left = sailors.bed[sailor];
            if (beds.has(left)) {
                beds.sleeper[left] = Beds.NOBODY;
            }
            sailors.bed[sailor] = Beds.NONE;
            sailors.place[sailor] = Sailors.UP;
        }

        void pawnBoots(int sailor) {
            sailors.boots[sailor] = 0;
            sailors.earn(sailor, pawn);
        }

        boolean canRedeemBoots(int sailor) {
            return !sailors.hasBoots(sailor) && sailors.purse[sailor] >= pawn + REDEEM_MORE;
        }

        void redeemBoots(int sailor) {
            sailors.purse[sailor] -= pawn + REDEEM_MORE;
            sailors.boots[sailor] = 1;
        }

        private void ringBell(int sailor) {
            if (sailors.isUp(sailor) || isInWatch(sailor)) {
                return;
            }
            int loud = bell + LOUDER_BY_HOUR * hoursSinceWatch(sailor);
            if (loud >= sailors.heavy[sailor]) {
                getUp(sailor);
            } else {
                sailors.beLate(sailor);
            }
        }

        private boolean isInWatch(int sailor) {
            return sailors.watch[sailor] == watchNow();
        }

        /** 0 in the first hour behind the watch. */
        private int hoursSinceWatch(int sailor) {
            int end = (sailors.watch[sailor] + 1) * WATCH_HOURS;
            return (hour % DAY_HOURS + DAY_HOURS - end) % DAY_HOURS;
        }

        private void serve(int sailor) {
            if (!isInWatch(sailor)) {
                return;
            }
            if (hour % WATCH_HOURS == 0) {
                sailors.payWage(sailor);
                if (canRedeemBoots(sailor)) {
                    redeemBoots(sailor);
                }
            }
            if (sailors.isUp(sailor)) {
                lookForBed(sailor);
            }
        }

        private void lookForBed(int sailor) {
            int kept = sailors.kept[sailor];
            int bed = beds.isFree(kept) ? kept : beds.cheapestFree();
            if (beds.has(bed)) {
                tryBed(sailor, bed);
            } else if (hour % WATCH_HOURS >= WAITED_HOURS) {
                sailors.lieOnFloor(sailor);
            }
        }

        private void tryBed(int sailor, int bed) {
            int price = beds.price[bed];
            int purse = sailors.purse[sailor];
            if (purse < price && purse + pawn >= price && sailors.hasBoots(sailor)) {
                pawnBoots(sailor);
            }
            if (sailors.purse[sailor] >= price) {
                getInto(sailor, bed);
            } else {
                sailors.lieOnFloor(sailor);
            }
        }

        private void getInto(int sailor, int bed) {
            int price = beds.price[bed];
            sailors.purse[sailor] -= price;
            sailors.place[sailor] = Sailors.IN_BED;
            sailors.bed[sailor] = bed;
            beds.paid[bed] += price;
            beds.entries[bed]++;
            beds.sleeper[bed] = sailor;
        }

        private int restOfHour(int sailor) {
            switch (sailors.place[sailor]) {
                case Sailors.IN_BED: return beds.isWarm(sailors.bed[sailor]) ? 2 : 1;
                case Sailors.ON_FLOOR: return hour % 2 == 0 ? 0 : 1;
                default: return 0;
            }
        }
    }
}
