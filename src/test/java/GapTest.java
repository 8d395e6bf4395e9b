import java.math.BigInteger;

/** Promises 49 to 53: two moments, their order and how much lies between them. */
public final class GapTest {
    private static final long[] SIZES = {1L, 1000L, 1000000L, 1000000000L, 60000000000L, 3600000000000L,
        43200000000000L, 86400000000000L, 604800000000000L};
    private static final long DAY = 86400000000000L;

    public static void main(String[] args) {
        order();
        orderOfEachTwo();
        isSameAs();
        units();
        unitsBesidesWhole();
        nanosFarApart();
        months();
        monthsOfTens();
        withItself();
        refusedNanos();
        refusedMonths();
        refusedLeavesOtherUnits();
        refusedIsCounted();
        Checks.end("GapTest");
    }

    // ---- promises 49, 50

    private static void ordered(String from, String to, int want) {
        Checks.Start start = Checks.start(1, from, to);
        Checks.dueAnswer("49 " + from + " and " + to, start, x -> x.compare(1, 2), want);
        Checks.dueAnswer("49 back " + from + " and " + to, start, x -> x.compare(2, 1), -want);
        Checks.dueAnswer("50 " + from + " and " + to, start, x -> x.isSame(1, 2), want == 0);
        Checks.dueAnswer("50 back " + from + " and " + to, start, x -> x.isSame(2, 1), want == 0);
    }

    // "One is ahead of another one, if its LINE is less; the SAME, if it is the same."
    private static void order() {
        String noon = "2000-1-1 12:0:0.0";
        ordered(noon, noon, 0);
        ordered(noon, "2000-1-1 12:0:0.1", -1);
        ordered(noon, "2000-1-2 12:0:0.0", -1);
        ordered(noon, "2000-1-2 0:0:0.0", -1);
        ordered(noon, "1999-12-31 23:59:59.999999999", 1);
        ordered(noon, "1999-1-2 12:0:0.0", 1);
        ordered("0-1-1 0:0:0.0", "1-1-1 0:0:0.0", -1);
        ordered("-1-12-31 23:59:59.999999999", "0-1-1 0:0:0.0", -1);
        ordered("-2-1-1 0:0:0.0", "-1-1-1 0:0:0.0", -1);
        ordered(Checks.FIRST, Checks.LAST, -1);
        ordered(Checks.FIRST, "-9999-1-1 0:0:0.1", -1);
        ordered("9999-12-31 23:59:59.999999998", Checks.LAST, -1);
        ordered(Checks.LAST, Checks.LAST, 0);
        ordered(Checks.FIRST, Checks.FIRST, 0);
        // a difference that 32 bits would cut: 65536 seconds in nanos, and 2 to the 32nd nanos
        ordered("2000-1-1 0:0:0.0", "2000-1-1 18:12:16.0", -1);
        ordered("2000-1-1 0:0:0.0", "2000-1-1 0:0:4.294967296", -1);
    }

    private static void orderOfEachTwo() {
        int[] ranks = {2, 3, 4, 2, 1, 5};
        Checks.Start start = Checks.start(0, "2000-1-1 12:0:0.0", "2000-1-1 12:0:0.1", "2000-1-2 0:0:0.0",
                "2000-1-1 12:0:0.0", "-9999-1-1 23:59:59.999999999", "9999-12-31 0:0:0.0");
        for (int m = 0; m < 6; m++) {
            for (int o = 0; o < 6; o++) {
                int one = m;
                int other = o;
                int want = Integer.compare(ranks[one], ranks[other]);
                Checks.dueAnswer("49 " + m + " " + o, start, x -> x.compare(one, other), want);
                Checks.dueAnswer("50 " + m + " " + o, start, x -> x.isSame(one, other), want == 0);
            }
        }
    }

    // ---- promise 51: "Returns whether that is the SAME as it (of 0 to 2 never)."

    private static void isSameAs() {
        String[] moments = {Checks.FIRST, Checks.LAST, "2024-2-29 1:2:3.4", "-1-12-31 0:0:0.0", "0-1-1 23:59:59.1"};
        for (String from : moments) {
            for (int m = 0; m < 6; m++) {
                for (int w = 0; w <= 4; w++) {
                    int moment = m;
                    int what = w;
                    Checks.dueAnswer("51 " + w + " of " + from, Checks.start(m, from), x -> x.isSameAs(moment, what),
                            w >= 3);
                }
            }
        }
    }

    // ---- promises 52, 53

    private static String minus(String number) {
        return number.equals("0") ? number : number.startsWith("-") ? number.substring(1) : "-" + number;
    }

    /** between and until, both ways. */
    private static void gap(String from, String to, int unit, String want) {
        Checks.Start start = Checks.start(3, from, to);
        String told = " from " + from + " to " + to + ", unit " + unit;
        Checks.dueAnswer("52" + told, start, x -> x.between(3, 4, unit), want);
        Checks.dueAnswer("53" + told, start, x -> x.until(3, 4, unit), want);
        Checks.dueAnswer("52 back" + told, start, x -> x.between(4, 3, unit), minus(want));
        Checks.dueAnswer("53 back" + told, start, x -> x.until(4, 3, unit), minus(want));
    }

    private static BigInteger lineOf(String text) {
        Daytimepair x = Checks.start(0, text).make();
        return BigInteger.valueOf(x.day(0)).multiply(BigInteger.valueOf(DAY)).add(new BigInteger(x.nanoOfDay(0)));
    }

    // "Of 0 to 8: the LINE of b, less that of a, divided by the nanos of that UNIT, towards 0."
    private static void units() {
        String[] moments = {"2000-1-1 0:0:0.0", "2000-1-1 23:59:59.999999999", "1969-12-31 12:30:30.5",
            "-9999-1-1 0:0:0.1", "9999-12-31 13:14:15.16", "2000-1-8 0:0:0.0", "2000-1-7 23:59:59.999999999",
            "1999-12-25 0:0:0.1", "2000-1-1 0:0:0.1", Checks.FIRST, Checks.LAST};
        for (String from : moments) {
            for (String to : moments) {
                BigInteger nanos = lineOf(to).subtract(lineOf(from));
                int first = nanos.abs().compareTo(BigInteger.valueOf(100000L * DAY)) > 0 ? 1 : 0;
                for (int unit = first; unit <= 8; unit++) {
                    gap(from, to, unit, nanos.divide(BigInteger.valueOf(SIZES[unit])).toString());
                }
            }
        }
        gap(Checks.FIRST, Checks.LAST, 1, "631107417599999999");
        gap(Checks.FIRST, Checks.LAST, 7, "7304483");
        gap(Checks.FIRST, Checks.LAST, 8, "1043497");
    }

    /** A nano less than one, one and two of a UNIT, just so many, and a nano more. */
    private static void unitsBesidesWhole() {
        String[] starts = {"2000-1-1 0:0:0.0", "1999-12-31 23:59:59.999999999", "1970-1-1 12:0:0.0", "0-1-1 0:0:0.0"};
        for (String from : starts) {
            for (int unit = 0; unit <= 8; unit++) {
                for (int many = 1; many <= 2; many++) {
                    besidesWhole(from, unit, many);
                }
            }
        }
    }

    private static void besidesWhole(String from, int unit, int many) {
        for (int more = -1; more <= 1; more++) {
            long nanos = many * SIZES[unit] + more;
            Daytimepair x = Checks.start(0, from).make();
            x.plusNanos(0, (int) (nanos / 1000000000L), (int) (nanos % 1000000000L));
            gap(from, Checks.momentOf(x, 0), unit, String.valueOf(nanos / SIZES[unit]));
        }
    }

    // "of the UNIT 0, if the DAYS of both are more than 100000 apart"
    private static void nanosFarApart() {
        gap("1970-1-1 0:0:0.0", "2243-10-17 0:0:0.0", 0, "8640000000000000000");
        gap("1970-1-1 0:0:0.0", "2243-10-17 23:59:59.999999999", 0, "8640086399999999999");
        gap("1970-1-1 23:59:59.999999999", "2243-10-17 0:0:0.0", 0, "8639913600000000001");
        gap("1696-3-17 0:0:0.0", "1970-1-1 12:0:0.0", 0, "8640043200000000000");
    }

    private static void refusesGap(String from, String to, int unit) {
        Checks.Start start = Checks.start(3, from, to);
        String told = " from " + from + " to " + to + ", unit " + unit;
        Checks.dueRefused("52" + told, start, x -> x.between(3, 4, unit), Checks.NO_GAP);
        Checks.dueRefused("53" + told, start, x -> x.until(3, 4, unit), Checks.NO_GAP);
        Checks.dueRefused("52 back" + told, start, x -> x.between(4, 3, unit), Checks.NO_GAP);
        Checks.dueRefused("53 back" + told, start, x -> x.until(4, 3, unit), Checks.NO_GAP);
    }

    private static void refusedNanos() {
        refusesGap("1970-1-1 0:0:0.0", "2243-10-18 0:0:0.0", 0);
        // 100000 whole days and a nano lie between these, but the DAYS are 100001 apart
        refusesGap("1970-1-1 23:59:59.999999999", "2243-10-18 0:0:0.0", 0);
        refusesGap("1970-1-1 23:59:59.999999999", "2243-10-18 23:59:59.999999999", 0);
        refusesGap("1696-3-16 23:59:59.999999999", "1970-1-1 0:0:0.0", 0);
        refusesGap(Checks.FIRST, Checks.LAST, 0);
        refusesGap(Checks.FIRST, "1970-1-1 0:0:0.0", 0);
    }

    private static void months(String from, String to, int want) {
        int[] sizes = {1, 12, 120, 1200, 12000};
        for (int unit = 9; unit <= 13; unit++) {
            gap(from, to, unit, String.valueOf(want / sizes[unit - 9]));
        }
    }

    // "the greatest number of months so that a, these months on, is not behind b"
    private static void months() {
        months("2024-1-28 12:0:0.0", "2024-2-28 12:0:0.0", 1);
        months("2024-1-28 12:0:0.0", "2024-2-28 11:59:59.999999999", 0);
        months("2024-1-28 12:0:0.0", "2024-2-28 12:0:0.1", 1);
        months("2024-1-28 12:0:0.0", "2024-2-27 23:0:0.0", 0);
        months("2024-1-28 12:0:0.0", "2024-3-1 0:0:0.0", 1);
        months("2024-1-28 12:0:0.0", "2024-3-28 0:0:0.0", 1);
        months("2024-1-10 12:0:0.0", "2024-2-11 11:0:0.0", 1);
        months("2024-1-10 12:0:0.0", "2024-1-10 12:0:0.0", 0);
        months("2024-1-10 12:0:0.0", "2024-1-10 12:0:0.1", 0);
        months("2024-1-10 12:0:0.0", "2024-1-28 23:0:0.0", 0);
        months("2024-1-1 0:0:0.0", "2024-1-28 23:0:0.0", 0);
        months("2023-12-28 0:0:0.0", "2024-1-28 0:0:0.0", 1);
        months("2023-12-28 0:0:0.1", "2024-1-28 0:0:0.0", 0);
        months("-1-12-1 0:0:0.0", "0-1-1 0:0:0.0", 1);
        months("-1-12-1 0:0:0.0", "1-1-1 0:0:0.0", 13);
        months("-9999-1-1 0:0:0.0", "9999-12-28 23:59:59.999999999", 239987);
        months("-9999-1-1 0:0:0.1", "9999-12-1 0:0:0.0", 239986);
    }

    // "Of 10 to 13: that of 9 divided by 12, 120, 1200, 12000, towards 0."
    private static void monthsOfTens() {
        for (int years : new int[] {1, 10, 100, 1000}) {
            months("2000-5-28 1:0:0.0", (2000 + years) + "-5-28 1:0:0.0", 12 * years);
            months("2000-5-28 1:0:0.0", (2000 + years) + "-5-28 0:59:59.999999999", 12 * years - 1);
            months("2000-5-28 1:0:0.0", (2000 + years) + "-5-27 23:0:0.0", 12 * years - 1);
            months("2000-5-28 1:0:0.0", (2000 + years) + "-6-28 1:0:0.0", 12 * years + 1);
            months("0-1-1 0:0:0.0", (2 * years) + "-1-1 0:0:0.0", 24 * years);
            months("0-1-1 0:0:0.1", (2 * years) + "-1-1 0:0:0.0", 24 * years - 1);
            months(-years + "-1-1 0:0:0.0", "0-1-1 0:0:0.0", 12 * years);
        }
    }

    // "or the same"; texts of the number 0
    private static void withItself() {
        for (String from : new String[] {"2000-5-28 1:2:3.4", Checks.FIRST, "9999-12-28 23:59:59.999999999"}) {
            for (int u = 0; u <= 13; u++) {
                int unit = u;
                Checks.dueAnswer("52 with itself, unit " + u, Checks.start(5, from), x -> x.between(5, 5, unit), "0");
                Checks.dueAnswer("53 with itself, unit " + u, Checks.start(0, from), x -> x.until(0, 0, unit), "0");
            }
        }
    }

    // "of 9 to 13, if the day of the month of one of both is above 28"
    private static void refusedMonths() {
        for (int unit = 9; unit <= 13; unit++) {
            for (int day = 29; day <= 31; day++) {
                refusesGap("2000-1-28 0:0:0.0", "2000-3-" + day + " 0:0:0.0", unit);
                refusesGap("2000-1-" + day + " 0:0:0.0", "2000-3-28 0:0:0.0", unit);
                refusesGap("2000-1-1 0:0:0.0", "2000-1-" + day + " 0:0:0.0", unit);
                refusesGap("2000-1-" + day + " 0:0:0.0", "2000-3-" + day + " 0:0:0.0", unit);
            }
            refusesGap("2024-2-29 0:0:0.0", "2024-2-28 0:0:0.0", unit);
            refusesGap(Checks.FIRST, Checks.LAST, unit);
            int u = unit;
            Checks.dueRefused("52 with itself, unit " + u, Checks.start(2, "2024-2-29 0:0:0.0"),
                    x -> x.between(2, 2, u), Checks.NO_GAP);
        }
    }

    private static void refusedLeavesOtherUnits() {
        gap("2000-1-31 0:0:0.0", "2000-3-31 0:0:0.0", 0, "5184000000000000");
        gap("2000-1-31 0:0:0.0", "2000-3-31 0:0:0.0", 7, "60");
        gap("2000-1-31 0:0:0.0", "2000-3-31 0:0:0.0", 8, "8");
        gap("1970-1-1 0:0:0.0", "2243-10-18 0:0:0.0", 1, "8640086400000000");
        gap("1970-1-1 0:0:0.0", "2243-10-18 0:0:0.0", 7, "100001");
        gap("1970-1-1 0:0:0.0", "2243-10-18 0:0:0.0", 9, "3285");
        gap("-9999-1-1 0:0:0.0", "9999-12-28 0:0:0.0", 13, "19");
    }

    // "(as a text "!", counted in house() 1 likewise)"
    private static void refusedIsCounted() {
        Daytimepair x = Checks.start(0, Checks.FIRST, Checks.LAST).make();
        for (int times = 1; times <= 20; times++) {
            Checks.due("52 refused", x.between(0, 1, times % 2 == 0 ? 0 : 9), "!");
            Checks.due("52 counted", x.house(1), 2 * times - 1);
            Checks.due("53 refused", x.until(1, 0, times % 2 == 0 ? 13 : 0), "!");
            Checks.due("53 counted", x.house(1), 2 * times);
        }
        Checks.due("52 no change", x.house(0), 2);
    }
}
