/** Promises 54 to 57: the whole. */
public final class WholeTest {
    private static final String[] SIX = {"2024-2-29 1:2:3.4", "1999-12-31 23:59:59.999999999", "-5-1-1 0:0:0.0",
        "0-1-31 4:5:6.7", "2024-2-29 1:2:3.4", "1970-1-1 12:0:0.0"};

    public static void main(String[] args) {
        houseChanges();
        houseRefused();
        houseSame();
        houseAheadAndBehind();
        houseAsks();
        knock();
        isSound();
        isSoundEverywhere();
        digest();
        digestLater();
        digestWraps();
        Checks.end("WholeTest");
    }

    // Promise 54: "how often a MOMENT was changed or made (calls that were done, also if it stays the SAME)"
    private static void houseChanges() {
        Daytimepair x = new Daytimepair();
        Checks.due("54 new", x.house(0), 0);
        x.hand(1, 1, 1, 1);
        Checks.due("54 hand is no change", x.house(0), 0);
        x.truncate(0, 0);
        x.copy(1, 1);
        x.takeDate(2, 2);
        x.takeTime(3, 3);
        x.withYear(4, 2000);
        x.withNano(5, 0);
        x.plusDays(2, 0);
        x.plusNanos(3, 1, -1000000000);
        x.minusYears(1, 0);
        x.plusUnits(0, 0, 13);
        Checks.due("54 stays the SAME", x.house(0), 10);
        Checks.due("54 all are the SAME still", x.house(2), 5);
        x.of(0, 2023, 2, 29, 0);
        x.plusYears(0, 9999);
        Checks.due("54 REFUSED is no change", x.house(0), 10);
        x.of(0, 2023, 2, 28, 0);
        x.ofDay(0, 0);
        Checks.due("54 made", x.house(0), 12);
    }

    // "1 how often REFUSED was told"
    private static void houseRefused() {
        Daytimepair x = new Daytimepair();
        Checks.due("54 new", x.house(1), 0);
        x.of(0, 2023, 2, 29, 0);
        x.ofDay(1, 10000000);
        x.withDayOfMonth(2, 31);
        Checks.due("54 two and one that was done", x.house(1), 2);
        x.withMonth(2, 4);
        x.withDayOfMonth(2, 31);
        x.plusUnits(3, 100000, 13);
        x.minusDays(4, Checks.MIN);
        Checks.due("54 five", x.house(1), 5);
        x.withDayOfMonth(5, 29);
        x.between(0, 5, 9);
        x.until(0, 5, 13);
        Checks.due("54 seven", x.house(1), 7);
    }

    // "2 how many MOMENTS are the SAME as one with a smaller number"
    private static void houseSame() {
        same("each another", 0, 1, 2, 3, 4, 5, 6);
        same("all one", 5, 1, 1, 1, 1, 1, 1);
        same("three and three", 4, 1, 2, 1, 2, 1, 2);
        same("three times two", 3, 1, 2, 3, 3, 2, 1);
        same("two in the middle", 1, 1, 2, 3, 3, 4, 5);
        same("outermost two", 1, 1, 2, 3, 4, 5, 1);
        same("all but the first", 4, 1, 2, 2, 2, 2, 2);
        same("all but the last", 4, 1, 1, 1, 1, 1, 2);
        same("four and two", 4, 1, 1, 2, 2, 1, 1);
    }

    /** Moments apart by nanos alone, and by days alone. */
    private static void same(String what, int want, int... ranks) {
        Checks.dueAnswer("54 nanos, " + what, () -> ranked(ranks, 0, 1), x -> x.house(2), want);
        Checks.dueAnswer("54 days, " + what, () -> ranked(ranks, 1, 0), x -> x.house(2), want);
    }

    private static Daytimepair ranked(int[] ranks, int days, int nanos) {
        Daytimepair x = new Daytimepair();
        for (int m = 0; m < 6; m++) {
            x.plusDays(m, ranks[m] * days);
            x.plusNanos(m, 0, ranks[m] * nanos);
        }
        return x;
    }

    // "3 the number of the MOMENT that is ahead of all others, 4 of that behind all others (.. the smallest number)"
    private static void houseAheadAndBehind() {
        outermost(0, 0, 1, 1, 1, 1, 1, 1);
        outermost(0, 5, 1, 2, 3, 4, 5, 6);
        outermost(5, 0, 6, 5, 4, 3, 2, 1);
        outermost(0, 1, 1, 2, 1, 2, 1, 2);
        outermost(2, 0, 3, 2, 1, 1, 2, 3);
        outermost(0, 2, 1, 2, 3, 3, 2, 1);
        outermost(5, 0, 2, 2, 2, 2, 2, 1);
        outermost(0, 5, 1, 1, 1, 1, 1, 2);
        outermost(1, 0, 2, 1, 1, 1, 1, 1);
        outermost(3, 4, 2, 2, 2, 1, 3, 2);
        outermost(4, 3, 2, 2, 2, 3, 1, 2);
        outermost(2, 1, 2, 3, 1, 3, 1, 2);
    }

    private static void outermost(int ahead, int behind, int... ranks) {
        String what = java.util.Arrays.toString(ranks);
        Checks.dueAnswer("54 ahead by nanos " + what, () -> ranked(ranks, 0, 1), x -> x.house(3), ahead);
        Checks.dueAnswer("54 ahead by days " + what, () -> ranked(ranks, 1, 0), x -> x.house(3), ahead);
        Checks.dueAnswer("54 ahead by days, not nanos " + what, () -> ranked(ranks, 1, -1), x -> x.house(3), ahead);
        Checks.dueAnswer("54 behind by nanos " + what, () -> ranked(ranks, 0, 1), x -> x.house(4), behind);
        Checks.dueAnswer("54 behind by days " + what, () -> ranked(ranks, 1, 0), x -> x.house(4), behind);
        Checks.dueAnswer("54 behind by days, not nanos " + what, () -> ranked(ranks, 1, -1), x -> x.house(4), behind);
    }

    private static void houseAsks() {
        int[] wants = {6, 0, 1, 2, 0, 0};
        for (int w = 0; w <= 5; w++) {
            int what = w;
            Checks.dueAnswer("54 house " + w, Checks.start(0, SIX), x -> x.house(what), wants[w]);
        }
    }

    // Promise 55: "Returns how often one knocked, with this."; promise 54: "5 how often one knocked"
    private static void knock() {
        Daytimepair x = Checks.start(0, SIX).make();
        String before = moments(x);
        Checks.due("54 never knocked", x.house(5), 0);
        for (int times = 1; times <= 150; times++) {
            Checks.due("55 knock", x.knock(), times);
            Checks.due("54 knocked", x.house(5), times);
        }
        Checks.due("55 no change", x.house(0), 6);
        Checks.due("55 no REFUSED", x.house(1), 0);
        Checks.due("55 leaves the moments", moments(x), before);
        Checks.due("55 leaves the hand", Checks.handOf(x), "21:43:5.76");
    }

    private static String moments(Daytimepair x) {
        StringBuilder text = new StringBuilder();
        for (int m = 0; m < 6; m++) {
            text.append(Checks.momentOf(x, m)).append("; ");
        }
        return text.toString();
    }

    // Promise 56
    private static void isSound() {
        Checks.dueAnswer("56 new", Daytimepair::new, Daytimepair::isSound, true);
        Checks.dueAnswer("56 six", Checks.start(0, SIX), Daytimepair::isSound, true);
        String[] ends = {Checks.LAST, Checks.FIRST, "9999-12-31 0:0:0.0", "-9999-1-1 23:59:59.999999999",
            "9999-12-30 23:59:59.999999999", "9599-12-31 23:59:59.999999999"};
        Checks.dueAnswer("56 \"where these stay in range\"", Checks.start(0, ends), Daytimepair::isSound, true);
        String[] others = {"9600-1-1 0:0:0.0", "9600-2-29 0:0:0.0", "9599-2-28 12:0:0.0", "-4-2-29 1:0:0.0",
            "9999-12-30 0:0:0.0", "0-2-29 23:59:59.999999999"};
        Checks.dueAnswer("56 400 years more", Checks.start(0, others), Daytimepair::isSound, true);
    }

    private static void isSoundEverywhere() {
        Daytimepair x = new Daytimepair();
        for (int day = -4371587; day <= 2932896; day += 1333) {
            if (day % 100 == 0) {
                x = new Daytimepair();
            }
            x.ofDay(Math.floorMod(day, 6), day);
            x.plusNanos(Math.floorMod(day, 6), Math.floorMod(day * 31, 86400), 999999999);
            Checks.due("56 DAY " + day, x.isSound(), true);
        }
    }

    // Promise 57
    private static void digest() {
        Checks.dueAnswer("57 new", Daytimepair::new, Daytimepair::digest, digestOf(new Daytimepair()));
        Checks.dueAnswer("57 six", Checks.start(0, SIX), Daytimepair::digest, digestOf(Checks.start(0, SIX).make()));
        Checks.due("57 two new ones", new Daytimepair().digest(), new Daytimepair().digest());
    }

    /** Each part of the sum by itself: a change of it changes the sum. */
    private static void digestLater() {
        Daytimepair x = Checks.start(0, SIX).make();
        for (int step = 0; step < 4; step++) {
            Checks.due("57 step " + step, x.digest(), digestOf(x));
            x.knock();
            x.ofDay(step, 10000000);
            x.ofDay(step, -4371587 + step);
            x.copy(step, 5 - step);
        }
        x = Checks.start(0, Checks.FIRST, Checks.LAST, Checks.FIRST, Checks.LAST).make();
        x.between(0, 1, 0);
        x.withDayOfYear(0, 366);
        Checks.due("57 ends", x.digest(), digestOf(x));
        x.isSound();
        Checks.due("57 again", x.digest(), digestOf(x));
    }

    /** The values of the sum by hand, for a new object: "wraps around as a 64-bit integer". */
    private static void digestWraps() {
        java.math.BigInteger d = java.math.BigInteger.valueOf(7643);
        int[] moment = {2000, 1, 1, 1, 6, 0, 0, 0, 0, 10957};
        for (int m = 0; m < 6; m++) {
            d = mixed(d, moment);
        }
        for (int pair = 0; pair < 15; pair++) {
            d = mixed(d, 0, 1);
        }
        d = mixed(d, 0, 0, 5, 0, 0, 0, 1);
        Checks.due("57 by hand", new Daytimepair().digest(), d.longValue());
    }

    private static java.math.BigInteger mixed(java.math.BigInteger before, int... values) {
        java.math.BigInteger d = before;
        for (int value : values) {
            d = d.multiply(java.math.BigInteger.valueOf(31)).add(java.math.BigInteger.valueOf(value));
        }
        return d;
    }

    private static long digestOf(Daytimepair x) {
        long d = 7643L;
        for (int m = 0; m < 6; m++) {
            int[] values = {x.year(m), x.month(m), x.dayOfMonth(m), x.dayOfYear(m), x.dayOfWeek(m), x.hour(m),
                x.minute(m), x.second(m), x.nano(m), x.day(m)};
            for (int value : values) {
                d = d * 31 + value;
            }
        }
        for (int one = 0; one < 6; one++) {
            for (int other = one + 1; other < 6; other++) {
                d = d * 31 + x.compare(one, other);
                d = d * 31 + x.between(one, other, 5).length();
            }
        }
        for (int what = 0; what <= 5; what++) {
            d = d * 31 + x.house(what);
        }
        return d * 31 + (x.isSound() ? 1 : 0);
    }
}
