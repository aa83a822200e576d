/** What the tests share: compares answers, tells each wrong one, and ends with exit code 1 if there was one. */
final class Check {
    private static final int MOST_TOLD = 100;
    private static int wrong = 0;

    private Check() {
    }

    interface Call {
        void run();
    }

    static void same(String what, long got, long due) {
        if (got != due) {
            wrong(what, got, due);
        }
    }

    static void sameMean(String what, double got, double due) {
        if (got != due) {
            wrong(what, got, due);
        }
    }

    static void wrong(String what, Object got, Object due) {
        wrong++;
        if (wrong <= MOST_TOLD) {
            System.out.println(what + " answered " + got + ", due is " + due);
        }
    }

    /** The call throws exactly this exception, and no class below it as the machine's own are, and changes nothing. */
    static void fails(String what, HotBeds house, Class<? extends RuntimeException> due, Call call) {
        long before = house.digest();
        Class<?> got = null;
        try {
            call.run();
        } catch (RuntimeException e) {
            got = e.getClass();
        }
        if (got != due) {
            wrong(what, got, due);
        }
        same(what + ": the digest behind it", house.digest(), before);
    }

    /** The answers of told(sailor, 0..10). */
    static void told(String what, HotBeds house, int sailor, int... due) {
        for (int i = 0; i < due.length; i++) {
            same(what + ": told(" + sailor + ", " + i + ")", house.told(sailor, i), due[i]);
        }
    }

    /** The answers of about(bed, 0..4). */
    static void about(String what, HotBeds house, int bed, int... due) {
        for (int i = 0; i < due.length; i++) {
            same(what + ": about(" + bed + ", " + i + ")", house.about(bed, i), due[i]);
        }
    }

    /** The answers of count(0..9). */
    static void counts(String what, HotBeds house, int... due) {
        for (int i = 0; i < due.length; i++) {
            same(what + ": count(" + i + ")", house.count(i), due[i]);
        }
    }

    static void end() {
        if (wrong != 0) {
            System.out.println(wrong + " answers are not as due");
            System.exit(1);
        }
    }
}
